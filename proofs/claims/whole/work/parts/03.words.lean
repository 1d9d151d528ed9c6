theorem wc_M_init : Cond.code yM_init cM_init 1 none ∈ zT := zin (List.mem_of_getElem? (i := 30) (by decide +kernel)) rfl
theorem wc_C_init : Cond.code yC_init cC_init 1 none ∈ zT := zin (List.mem_of_getElem? (i := 38) (by decide +kernel)) rfl
theorem wc_D_init : Cond.code yD_init cD_init 1 none ∈ zT := zin (List.mem_of_getElem? (i := 52) (by decide +kernel)) rfl
theorem wc_D_fit : Cond.code yD_fit cD_fit 5 none ∈ zT := zin (List.mem_of_getElem? (i := 57) (by decide +kernel)) rfl
theorem wc_F_ratio : Cond.code yF_ratio cF_ratio 2 (.some .int) ∈ zT := zin (List.mem_of_getElem? (i := 61) (by decide +kernel)) rfl
theorem wc_F_power : Cond.code yF_power cF_power 5 (.some .int) ∈ zT := zin (List.mem_of_getElem? (i := 65) (by decide +kernel)) rfl
theorem wc_F_product : Cond.code yF_product cF_product 2 (.some .int) ∈ zT := zin (List.mem_of_getElem? (i := 68) (by decide +kernel)) rfl
theorem wc_K_init : Cond.code yK_init cK_init 1 none ∈ zT := zin (List.mem_of_getElem? (i := 86) (by decide +kernel)) rfl
theorem wc_Q_init : Cond.code yQ_init cQ_init 1 none ∈ zT := zin (List.mem_of_getElem? (i := 120) (by decide +kernel)) rfl
theorem wc_M_open : Cond.code yM_open cM_open 1 (.some .int) ∈ zT := zin (List.mem_of_getElem? (i := 169) (by decide +kernel)) rfl
theorem wc_C_firstOpen : Cond.code yC_firstOpen cC_firstOpen 4 (.some .int) ∈ zT := zin (List.mem_of_getElem? (i := 173) (by decide +kernel)) rfl
theorem wc_C_rowSum : Cond.code yC_rowSum cC_rowSum 7 (.some .int) ∈ zT := zin (List.mem_of_getElem? (i := 177) (by decide +kernel)) rfl
theorem wc_C_start : Cond.code yC_start cC_start 2 (.some .int) ∈ zT := zin (List.mem_of_getElem? (i := 180) (by decide +kernel)) rfl
theorem wc_F_sum : Cond.code yF_sum cF_sum 3 (.some .int) ∈ zT := zin (List.mem_of_getElem? (i := 184) (by decide +kernel)) rfl
theorem wc_M_proof : Cond.code yM_proof cM_proof 2 (.some .int) ∈ zT := zin (List.mem_of_getElem? (i := 189) (by decide +kernel)) rfl
theorem wc_Q_isMade : Cond.code yQ_isMade cQ_isMade 1 (.some .boolean) ∈ zT := zin (List.mem_of_getElem? (i := 193) (by decide +kernel)) rfl
theorem wc_M_isBelow : Cond.code yM_isBelow cM_isBelow 2 (.some .boolean) ∈ zT := zin (List.mem_of_getElem? (i := 196) (by decide +kernel)) rfl
theorem wc_Q_element : Cond.code yQ_element cQ_element 2 (.some .int) ∈ zT := zin (List.mem_of_getElem? (i := 200) (by decide +kernel)) rfl
theorem wc_M_quotient : Cond.code yM_quotient cM_quotient 2 (.some .int) ∈ zT := zin (List.mem_of_getElem? (i := 204) (by decide +kernel)) rfl
theorem wc_Q_quotientCoefficient : Cond.code yQ_quotientCoefficient cQ_quotientCoefficient 2 (.some .int) ∈ zT := zin (List.mem_of_getElem? (i := 208) (by decide +kernel)) rfl
theorem wc_M_polynomial : Cond.code yM_polynomial cM_polynomial 4 (.some .int) ∈ zT := zin (List.mem_of_getElem? (i := 212) (by decide +kernel)) rfl
theorem wc_D_size : Cond.code yD_size cD_size 1 (.some .int) ∈ zT := zin (List.mem_of_getElem? (i := 216) (by decide +kernel)) rfl
theorem wc_C_column : Cond.code yC_column cC_column 5 none ∈ zT := zin (List.mem_of_getElem? (i := 220) (by decide +kernel)) rfl
theorem wc_D_coefficient : Cond.code yD_coefficient cD_coefficient 5 (.some .int) ∈ zT := zin (List.mem_of_getElem? (i := 224) (by decide +kernel)) rfl
theorem wc_M_key : Cond.code yM_key cM_key 3 (.some .int) ∈ zT := zin (List.mem_of_getElem? (i := 229) (by decide +kernel)) rfl
theorem wc_K_isMade : Cond.code yK_isMade cK_isMade 1 (.some .boolean) ∈ zT := zin (List.mem_of_getElem? (i := 233) (by decide +kernel)) rfl
theorem wc_K_tau : Cond.code yK_tau cK_tau 1 (.some .int) ∈ zT := zin (List.mem_of_getElem? (i := 237) (by decide +kernel)) rfl
theorem wc_K_sharedMix : Cond.code yK_sharedMix cK_sharedMix 3 (.some .int) ∈ zT := zin (List.mem_of_getElem? (i := 242) (by decide +kernel)) rfl
theorem wc_K_vanishingStep : Cond.code yK_vanishingStep cK_vanishingStep 2 (.some .int) ∈ zT := zin (List.mem_of_getElem? (i := 247) (by decide +kernel)) rfl
theorem wc_M_about : Cond.code yM_about cM_about 2 (.some .int) ∈ zT := zin (List.mem_of_getElem? (i := 253) (by decide +kernel)) rfl
theorem wc_C_count : Cond.code yC_count cC_count 1 (.some .int) ∈ zT := zin (List.mem_of_getElem? (i := 257) (by decide +kernel)) rfl
theorem wc_M_term : Cond.code yM_term cM_term 4 (.some .int) ∈ zT := zin (List.mem_of_getElem? (i := 265) (by decide +kernel)) rfl
theorem wc_C_growDraft : Cond.code yC_growDraft cC_growDraft 5 (.some .int) ∈ zT := zin (List.mem_of_getElem? (i := 333) (by decide +kernel)) rfl
theorem wc_M_constraint : Cond.code yM_constraint cM_constraint 2 (.some .int) ∈ zT := zin (List.mem_of_getElem? (i := 341) (by decide +kernel)) rfl
theorem wc_C_closeDraft : Cond.code yC_closeDraft cC_closeDraft 2 (.some .int) ∈ zT := zin (List.mem_of_getElem? (i := 360) (by decide +kernel)) rfl
theorem wc_K_drop : Cond.code yK_drop cK_drop 1 none ∈ zT := zin (List.mem_of_getElem? (i := 365) (by decide +kernel)) rfl
theorem wc_M_publics : Cond.code yM_publics cM_publics 2 (.some .boolean) ∈ zT := zin (List.mem_of_getElem? (i := 372) (by decide +kernel)) rfl
theorem wc_M_value : Cond.code yM_value cM_value 3 (.some .boolean) ∈ zT := zin (List.mem_of_getElem? (i := 379) (by decide +kernel)) rfl
theorem wc_M_setup : Cond.code yM_setup cM_setup 6 (.some .int) ∈ zT := zin (List.mem_of_getElem? (i := 387) (by decide +kernel)) rfl
theorem wc_M_isUnit : Cond.code yM_isUnit cM_isUnit 1 (.some .boolean) ∈ zT := zin (List.mem_of_getElem? (i := 390) (by decide +kernel)) rfl
theorem wc_D_vanishingAt : Cond.code yD_vanishingAt cD_vanishingAt 2 (.some .int) ∈ zT := zin (List.mem_of_getElem? (i := 394) (by decide +kernel)) rfl
theorem wc_F_difference : Cond.code yF_difference cF_difference 2 (.some .int) ∈ zT := zin (List.mem_of_getElem? (i := 397) (by decide +kernel)) rfl
theorem wc_K_take : Cond.code yK_take cK_take 6 none ∈ zT := zin (List.mem_of_getElem? (i := 416) (by decide +kernel)) rfl
theorem wc_K_mixAll : Cond.code yK_mixAll cK_mixAll 6 none ∈ zT := zin (List.mem_of_getElem? (i := 420) (by decide +kernel)) rfl
theorem wc_D_weight : Cond.code yD_weight cD_weight 6 (.some .int) ∈ zT := zin (List.mem_of_getElem? (i := 426) (by decide +kernel)) rfl
theorem wc_C_columnAt : Cond.code yC_columnAt cC_columnAt 6 (.some .int) ∈ zT := zin (List.mem_of_getElem? (i := 430) (by decide +kernel)) rfl
theorem wc_M_prove : Cond.code yM_prove cM_prove 3 (.some .boolean) ∈ zT := zin (List.mem_of_getElem? (i := 438) (by decide +kernel)) rfl
theorem wc_C_rowSums : Cond.code yC_rowSums cC_rowSums 5 none ∈ zT := zin (List.mem_of_getElem? (i := 442) (by decide +kernel)) rfl
theorem wc_D_interpolate : Cond.code yD_interpolate cD_interpolate 4 none ∈ zT := zin (List.mem_of_getElem? (i := 446) (by decide +kernel)) rfl
theorem wc_Q_divide : Cond.code yQ_divide cQ_divide 7 none ∈ zT := zin (List.mem_of_getElem? (i := 451) (by decide +kernel)) rfl
theorem wc_M_makeElements : Cond.code yM_makeElements cM_makeElements 8 none ∈ zT := zin (List.mem_of_getElem? (i := 457) (by decide +kernel)) rfl
theorem wc_K_delta : Cond.code yK_delta cK_delta 1 (.some .int) ∈ zT := zin (List.mem_of_getElem? (i := 461) (by decide +kernel)) rfl
theorem wc_K_firstElement : Cond.code yK_firstElement cK_firstElement 2 (.some .int) ∈ zT := zin (List.mem_of_getElem? (i := 465) (by decide +kernel)) rfl
theorem wc_K_atTau : Cond.code yK_atTau cK_atTau 4 (.some .int) ∈ zT := zin (List.mem_of_getElem? (i := 469) (by decide +kernel)) rfl
theorem wc_K_secondElement : Cond.code yK_secondElement cK_secondElement 2 (.some .int) ∈ zT := zin (List.mem_of_getElem? (i := 475) (by decide +kernel)) rfl
theorem wc_K_mixSum : Cond.code yK_mixSum cK_mixSum 6 (.some .int) ∈ zT := zin (List.mem_of_getElem? (i := 479) (by decide +kernel)) rfl
theorem wc_Q_quotientAt : Cond.code yQ_quotientAt cQ_quotientAt 4 (.some .int) ∈ zT := zin (List.mem_of_getElem? (i := 483) (by decide +kernel)) rfl
theorem wc_K_vanishing : Cond.code yK_vanishing cK_vanishing 1 (.some .int) ∈ zT := zin (List.mem_of_getElem? (i := 487) (by decide +kernel)) rfl
theorem wc_Q_keep : Cond.code yQ_keep cQ_keep 4 none ∈ zT := zin (List.mem_of_getElem? (i := 493) (by decide +kernel)) rfl
theorem wc_M_alter : Cond.code yM_alter cM_alter 3 (.some .boolean) ∈ zT := zin (List.mem_of_getElem? (i := 500) (by decide +kernel)) rfl
theorem wc_Q_setElement : Cond.code yQ_setElement cQ_setElement 3 none ∈ zT := zin (List.mem_of_getElem? (i := 504) (by decide +kernel)) rfl
theorem wc_M_input : Cond.code yM_input cM_input 3 (.some .boolean) ∈ zT := zin (List.mem_of_getElem? (i := 511) (by decide +kernel)) rfl
theorem wc_M_verify : Cond.code yM_verify cM_verify 3 (.some .boolean) ∈ zT := zin (List.mem_of_getElem? (i := 518) (by decide +kernel)) rfl
theorem wc_K_alpha : Cond.code yK_alpha cK_alpha 1 (.some .int) ∈ zT := zin (List.mem_of_getElem? (i := 522) (by decide +kernel)) rfl
theorem wc_K_beta : Cond.code yK_beta cK_beta 1 (.some .int) ∈ zT := zin (List.mem_of_getElem? (i := 526) (by decide +kernel)) rfl
theorem wc_T_init : Cond.code yT_init cT_init 1 none ∈ zT := zin (List.mem_of_getElem? (i := 531) (by decide +kernel)) rfl
theorem wc_T_thrown : Cond.code yT_thrown cT_thrown 1 (.some .int) ∈ zT := zin (List.mem_of_getElem? (i := 595) (by decide +kernel)) rfl
theorem wc_T_term : Cond.code yT_term cT_term 5 (.some .int) ∈ zT := zin (List.mem_of_getElem? (i := 599) (by decide +kernel)) rfl
theorem wc_T_isNumber : Cond.code yT_isNumber cT_isNumber 1 (.some .boolean) ∈ zT := zin (List.mem_of_getElem? (i := 602) (by decide +kernel)) rfl
theorem wc_T_constraint : Cond.code yT_constraint cT_constraint 2 (.some .int) ∈ zT := zin (List.mem_of_getElem? (i := 607) (by decide +kernel)) rfl
theorem wc_T_publics : Cond.code yT_publics cT_publics 2 (.some .boolean) ∈ zT := zin (List.mem_of_getElem? (i := 611) (by decide +kernel)) rfl
theorem wc_T_value : Cond.code yT_value cT_value 3 (.some .boolean) ∈ zT := zin (List.mem_of_getElem? (i := 615) (by decide +kernel)) rfl
theorem wc_T_open : Cond.code yT_open cT_open 1 (.some .int) ∈ zT := zin (List.mem_of_getElem? (i := 619) (by decide +kernel)) rfl
theorem wc_T_firstOpen : Cond.code yT_firstOpen cT_firstOpen 4 (.some .int) ∈ zT := zin (List.mem_of_getElem? (i := 623) (by decide +kernel)) rfl
theorem wc_T_sumOf : Cond.code yT_sumOf cT_sumOf 6 (.some .long) ∈ zT := zin (List.mem_of_getElem? (i := 627) (by decide +kernel)) rfl
theorem wc_T_polynomial : Cond.code yT_polynomial cT_polynomial 4 (.some .int) ∈ zT := zin (List.mem_of_getElem? (i := 631) (by decide +kernel)) rfl
theorem wc_T_size : Cond.code yT_size cT_size 1 (.some .int) ∈ zT := zin (List.mem_of_getElem? (i := 635) (by decide +kernel)) rfl
theorem wc_T_coefficient : Cond.code yT_coefficient cT_coefficient 14 (.some .long) ∈ zT := zin (List.mem_of_getElem? (i := 639) (by decide +kernel)) rfl
theorem wc_T_power : Cond.code yT_power cT_power 9 (.some .long) ∈ zT := zin (List.mem_of_getElem? (i := 644) (by decide +kernel)) rfl
theorem wc_T_inverse : Cond.code yT_inverse cT_inverse 2 (.some .long) ∈ zT := zin (List.mem_of_getElem? (i := 647) (by decide +kernel)) rfl
theorem wc_T_setup : Cond.code yT_setup cT_setup 14 (.some .int) ∈ zT := zin (List.mem_of_getElem? (i := 652) (by decide +kernel)) rfl
theorem wc_T_less : Cond.code yT_less cT_less 4 (.some .long) ∈ zT := zin (List.mem_of_getElem? (i := 655) (by decide +kernel)) rfl
theorem wc_T_atTau : Cond.code yT_atTau cT_atTau 6 (.some .long) ∈ zT := zin (List.mem_of_getElem? (i := 659) (by decide +kernel)) rfl
theorem wc_T_prove : Cond.code yT_prove cT_prove 12 (.some .boolean) ∈ zT := zin (List.mem_of_getElem? (i := 663) (by decide +kernel)) rfl
theorem wc_T_sum : Cond.code yT_sum cT_sum 6 none ∈ zT := zin (List.mem_of_getElem? (i := 667) (by decide +kernel)) rfl
theorem wc_T_divide : Cond.code yT_divide cT_divide 5 none ∈ zT := zin (List.mem_of_getElem? (i := 671) (by decide +kernel)) rfl
theorem wc_T_sumAtTau : Cond.code yT_sumAtTau cT_sumAtTau 5 (.some .long) ∈ zT := zin (List.mem_of_getElem? (i := 675) (by decide +kernel)) rfl
theorem wc_T_alter : Cond.code yT_alter cT_alter 3 (.some .boolean) ∈ zT := zin (List.mem_of_getElem? (i := 679) (by decide +kernel)) rfl
theorem wc_T_input : Cond.code yT_input cT_input 3 (.some .boolean) ∈ zT := zin (List.mem_of_getElem? (i := 683) (by decide +kernel)) rfl
theorem wc_T_verify : Cond.code yT_verify cT_verify 4 (.some .boolean) ∈ zT := zin (List.mem_of_getElem? (i := 687) (by decide +kernel)) rfl
theorem wc_T_proof : Cond.code yT_proof cT_proof 2 (.some .int) ∈ zT := zin (List.mem_of_getElem? (i := 691) (by decide +kernel)) rfl
theorem wc_T_quotient : Cond.code yT_quotient cT_quotient 2 (.some .int) ∈ zT := zin (List.mem_of_getElem? (i := 695) (by decide +kernel)) rfl
theorem wc_T_key : Cond.code yT_key cT_key 3 (.some .int) ∈ zT := zin (List.mem_of_getElem? (i := 699) (by decide +kernel)) rfl
theorem wc_T_about : Cond.code yT_about cT_about 2 (.some .int) ∈ zT := zin (List.mem_of_getElem? (i := 703) (by decide +kernel)) rfl
theorem wn_L : Cond.initialized RL ∈ zT := zin (List.mem_of_getElem? (i := 12) (by decide +kernel)) rfl
theorem wn_M : Cond.initialized RM ∈ zT := zin (List.mem_of_getElem? (i := 13) (by decide +kernel)) rfl
theorem wn_C : Cond.initialized RC ∈ zT := zin (List.mem_of_getElem? (i := 14) (by decide +kernel)) rfl
theorem wn_D : Cond.initialized RD ∈ zT := zin (List.mem_of_getElem? (i := 15) (by decide +kernel)) rfl
theorem wn_F : Cond.initialized RF ∈ zT := zin (List.mem_of_getElem? (i := 16) (by decide +kernel)) rfl
theorem wn_K : Cond.initialized RK ∈ zT := zin (List.mem_of_getElem? (i := 17) (by decide +kernel)) rfl
theorem wn_Q : Cond.initialized RQ ∈ zT := zin (List.mem_of_getElem? (i := 18) (by decide +kernel)) rfl
theorem wn_T : Cond.initialized RT ∈ zT := zin (List.mem_of_getElem? (i := 19) (by decide +kernel)) rfl
theorem wx_L_8 : Cond.classLink RL 8 RM ∈ zT := zin (List.mem_of_getElem? (i := 26) (by decide +kernel)) rfl
theorem wt_M : Cond.instantiable RM 11 ∈ zT := zin (List.mem_of_getElem? (i := 27) (by decide +kernel)) rfl
theorem wl_L_48 : Cond.methodLink RL 48 yM_init ∈ zT := zin (List.mem_of_getElem? (i := 28) (by decide +kernel)) rfl
theorem wi_M_init : Cond.instanceMethod yM_init ∈ zT := zin (List.mem_of_getElem? (i := 29) (by decide +kernel)) rfl
theorem wl_M_1 : Cond.methodLink RM 1 objectInit ∈ zT := zin (List.mem_of_getElem? (i := 31) (by decide +kernel)) rfl
theorem wx_M_7 : Cond.classLink RM 7 RC ∈ zT := zin (List.mem_of_getElem? (i := 34) (by decide +kernel)) rfl
theorem wt_C : Cond.instantiable RC 2 ∈ zT := zin (List.mem_of_getElem? (i := 35) (by decide +kernel)) rfl
theorem wl_M_9 : Cond.methodLink RM 9 yC_init ∈ zT := zin (List.mem_of_getElem? (i := 36) (by decide +kernel)) rfl
theorem wi_C_init : Cond.instanceMethod yC_init ∈ zT := zin (List.mem_of_getElem? (i := 37) (by decide +kernel)) rfl
theorem wl_C_3 : Cond.methodLink RC 3 objectInit ∈ zT := zin (List.mem_of_getElem? (i := 39) (by decide +kernel)) rfl
theorem wf_C_9 : Cond.fieldLink RC 9 RC (TC 0).2.1 (TC 0).2.2.1 ∈ zT := zin (List.mem_of_getElem? (i := 40) (by decide +kernel)) rfl
theorem wf_C_15 : Cond.fieldLink RC 15 RC (TC 1).2.1 (TC 1).2.2.1 ∈ zT := zin (List.mem_of_getElem? (i := 41) (by decide +kernel)) rfl
theorem wa_int : Cond.arrayClass .int ∈ zT := zin (List.mem_of_getElem? (i := 47) (by decide +kernel)) rfl
theorem wx_M_16 : Cond.classLink RM 16 RD ∈ zT := zin (List.mem_of_getElem? (i := 48) (by decide +kernel)) rfl
theorem wt_D : Cond.instantiable RD 3 ∈ zT := zin (List.mem_of_getElem? (i := 49) (by decide +kernel)) rfl
theorem wl_M_18 : Cond.methodLink RM 18 yD_init ∈ zT := zin (List.mem_of_getElem? (i := 50) (by decide +kernel)) rfl
theorem wi_D_init : Cond.instanceMethod yD_init ∈ zT := zin (List.mem_of_getElem? (i := 51) (by decide +kernel)) rfl
theorem wl_D_3 : Cond.methodLink RD 3 objectInit ∈ zT := zin (List.mem_of_getElem? (i := 53) (by decide +kernel)) rfl
theorem wl_D_15 : Cond.methodLink RD 15 yD_fit ∈ zT := zin (List.mem_of_getElem? (i := 54) (by decide +kernel)) rfl
theorem wi_D_fit : Cond.instanceMethod yD_fit ∈ zT := zin (List.mem_of_getElem? (i := 55) (by decide +kernel)) rfl
theorem we_D_fit : Cond.selects RD yD_fit yD_fit ∈ zT := zin (List.mem_of_getElem? (i := 56) (by decide +kernel)) rfl
theorem wk_D_23 : Cond.constant RD 23 (499122176) ∈ zT := zin (List.mem_of_getElem? (i := 58) (by decide +kernel)) rfl
theorem wl_D_24 : Cond.methodLink RD 24 yF_ratio ∈ zT := zin (List.mem_of_getElem? (i := 59) (by decide +kernel)) rfl
theorem ws_F_ratio : Cond.static yF_ratio ∈ zT := zin (List.mem_of_getElem? (i := 60) (by decide +kernel)) rfl
theorem wk_F_18 : Cond.constant RF 18 (998244351) ∈ zT := zin (List.mem_of_getElem? (i := 62) (by decide +kernel)) rfl
theorem wl_F_19 : Cond.methodLink RF 19 yF_power ∈ zT := zin (List.mem_of_getElem? (i := 63) (by decide +kernel)) rfl
theorem ws_F_power : Cond.static yF_power ∈ zT := zin (List.mem_of_getElem? (i := 64) (by decide +kernel)) rfl
theorem wl_F_12 : Cond.methodLink RF 12 yF_product ∈ zT := zin (List.mem_of_getElem? (i := 66) (by decide +kernel)) rfl
theorem ws_F_product : Cond.static yF_product ∈ zT := zin (List.mem_of_getElem? (i := 67) (by decide +kernel)) rfl
theorem wk_F_10 : Cond.constantLong RF 10 (998244353) ∈ zT := zin (List.mem_of_getElem? (i := 69) (by decide +kernel)) rfl
theorem wl_D_33 : Cond.methodLink RD 33 yF_power ∈ zT := zin (List.mem_of_getElem? (i := 70) (by decide +kernel)) rfl
theorem wl_D_36 : Cond.methodLink RD 36 yF_product ∈ zT := zin (List.mem_of_getElem? (i := 71) (by decide +kernel)) rfl
theorem wf_D_9 : Cond.fieldLink RD 9 RD (TD 0).2.1 (TD 0).2.2.1 ∈ zT := zin (List.mem_of_getElem? (i := 72) (by decide +kernel)) rfl
theorem wf_D_19 : Cond.fieldLink RD 19 RD (TD 1).2.1 (TD 1).2.2.1 ∈ zT := zin (List.mem_of_getElem? (i := 73) (by decide +kernel)) rfl
theorem wf_D_30 : Cond.fieldLink RD 30 RD (TD 2).2.1 (TD 2).2.2.1 ∈ zT := zin (List.mem_of_getElem? (i := 74) (by decide +kernel)) rfl
theorem wx_M_23 : Cond.classLink RM 23 RK ∈ zT := zin (List.mem_of_getElem? (i := 82) (by decide +kernel)) rfl
theorem wt_K : Cond.instantiable RK 9 ∈ zT := zin (List.mem_of_getElem? (i := 83) (by decide +kernel)) rfl
theorem wl_M_25 : Cond.methodLink RM 25 yK_init ∈ zT := zin (List.mem_of_getElem? (i := 84) (by decide +kernel)) rfl
theorem wi_K_init : Cond.instanceMethod yK_init ∈ zT := zin (List.mem_of_getElem? (i := 85) (by decide +kernel)) rfl
theorem wl_K_3 : Cond.methodLink RK 3 objectInit ∈ zT := zin (List.mem_of_getElem? (i := 87) (by decide +kernel)) rfl
theorem wf_K_9 : Cond.fieldLink RK 9 RK (TK 0).2.1 (TK 0).2.2.1 ∈ zT := zin (List.mem_of_getElem? (i := 88) (by decide +kernel)) rfl
theorem wf_K_15 : Cond.fieldLink RK 15 RK (TK 1).2.1 (TK 1).2.2.1 ∈ zT := zin (List.mem_of_getElem? (i := 89) (by decide +kernel)) rfl
theorem wf_K_18 : Cond.fieldLink RK 18 RK (TK 2).2.1 (TK 2).2.2.1 ∈ zT := zin (List.mem_of_getElem? (i := 90) (by decide +kernel)) rfl
theorem wf_K_22 : Cond.fieldLink RK 22 RK (TK 3).2.1 (TK 3).2.2.1 ∈ zT := zin (List.mem_of_getElem? (i := 91) (by decide +kernel)) rfl
theorem wf_K_26 : Cond.fieldLink RK 26 RK (TK 4).2.1 (TK 4).2.2.1 ∈ zT := zin (List.mem_of_getElem? (i := 92) (by decide +kernel)) rfl
theorem wf_K_29 : Cond.fieldLink RK 29 RK (TK 5).2.1 (TK 5).2.2.1 ∈ zT := zin (List.mem_of_getElem? (i := 93) (by decide +kernel)) rfl
theorem wf_K_38 : Cond.fieldLink RK 38 RK (TK 6).2.1 (TK 6).2.2.1 ∈ zT := zin (List.mem_of_getElem? (i := 94) (by decide +kernel)) rfl
theorem wf_K_32 : Cond.fieldLink RK 32 RK (TK 7).2.1 (TK 7).2.2.1 ∈ zT := zin (List.mem_of_getElem? (i := 95) (by decide +kernel)) rfl
theorem wf_K_35 : Cond.fieldLink RK 35 RK (TK 8).2.1 (TK 8).2.2.1 ∈ zT := zin (List.mem_of_getElem? (i := 96) (by decide +kernel)) rfl
theorem wx_M_30 : Cond.classLink RM 30 RQ ∈ zT := zin (List.mem_of_getElem? (i := 116) (by decide +kernel)) rfl
theorem wt_Q : Cond.instantiable RQ 3 ∈ zT := zin (List.mem_of_getElem? (i := 117) (by decide +kernel)) rfl
theorem wl_M_32 : Cond.methodLink RM 32 yQ_init ∈ zT := zin (List.mem_of_getElem? (i := 118) (by decide +kernel)) rfl
theorem wi_Q_init : Cond.instanceMethod yQ_init ∈ zT := zin (List.mem_of_getElem? (i := 119) (by decide +kernel)) rfl
theorem wl_Q_3 : Cond.methodLink RQ 3 objectInit ∈ zT := zin (List.mem_of_getElem? (i := 121) (by decide +kernel)) rfl
theorem wf_Q_9 : Cond.fieldLink RQ 9 RQ (TQ 0).2.1 (TQ 0).2.2.1 ∈ zT := zin (List.mem_of_getElem? (i := 122) (by decide +kernel)) rfl
theorem wf_Q_15 : Cond.fieldLink RQ 15 RQ (TQ 1).2.1 (TQ 1).2.2.1 ∈ zT := zin (List.mem_of_getElem? (i := 123) (by decide +kernel)) rfl
theorem wf_Q_18 : Cond.fieldLink RQ 18 RQ (TQ 2).2.1 (TQ 2).2.2.1 ∈ zT := zin (List.mem_of_getElem? (i := 124) (by decide +kernel)) rfl
theorem wf_M_10 : Cond.fieldLink RM 10 RM (TM 0).2.1 (TM 0).2.2.1 ∈ zT := zin (List.mem_of_getElem? (i := 132) (by decide +kernel)) rfl
theorem wf_M_19 : Cond.fieldLink RM 19 RM (TM 1).2.1 (TM 1).2.2.1 ∈ zT := zin (List.mem_of_getElem? (i := 133) (by decide +kernel)) rfl
theorem wf_M_26 : Cond.fieldLink RM 26 RM (TM 2).2.1 (TM 2).2.2.1 ∈ zT := zin (List.mem_of_getElem? (i := 134) (by decide +kernel)) rfl
theorem wf_M_33 : Cond.fieldLink RM 33 RM (TM 3).2.1 (TM 3).2.2.1 ∈ zT := zin (List.mem_of_getElem? (i := 135) (by decide +kernel)) rfl
theorem wf_M_37 : Cond.fieldLink RM 37 RM (TM 4).2.1 (TM 4).2.2.1 ∈ zT := zin (List.mem_of_getElem? (i := 136) (by decide +kernel)) rfl
theorem wf_M_41 : Cond.fieldLink RM 41 RM (TM 5).2.1 (TM 5).2.2.1 ∈ zT := zin (List.mem_of_getElem? (i := 137) (by decide +kernel)) rfl
theorem wf_M_85 : Cond.fieldLink RM 85 RM (TM 6).2.1 (TM 6).2.2.1 ∈ zT := zin (List.mem_of_getElem? (i := 138) (by decide +kernel)) rfl
theorem wf_M_44 : Cond.fieldLink RM 44 RM (TM 7).2.1 (TM 7).2.2.1 ∈ zT := zin (List.mem_of_getElem? (i := 139) (by decide +kernel)) rfl
theorem wf_M_47 : Cond.fieldLink RM 47 RM (TM 8).2.1 (TM 8).2.2.1 ∈ zT := zin (List.mem_of_getElem? (i := 140) (by decide +kernel)) rfl
theorem wf_M_50 : Cond.fieldLink RM 50 RM (TM 9).2.1 (TM 9).2.2.1 ∈ zT := zin (List.mem_of_getElem? (i := 141) (by decide +kernel)) rfl
theorem wf_M_53 : Cond.fieldLink RM 53 RM (TM 10).2.1 (TM 10).2.2.1 ∈ zT := zin (List.mem_of_getElem? (i := 142) (by decide +kernel)) rfl
theorem wl_L_73 : Cond.methodLink RL 73 yM_open ∈ zT := zin (List.mem_of_getElem? (i := 166) (by decide +kernel)) rfl
theorem wi_M_open : Cond.instanceMethod yM_open ∈ zT := zin (List.mem_of_getElem? (i := 167) (by decide +kernel)) rfl
theorem we_M_open : Cond.selects RM yM_open yM_open ∈ zT := zin (List.mem_of_getElem? (i := 168) (by decide +kernel)) rfl
theorem wl_M_89 : Cond.methodLink RM 89 yC_firstOpen ∈ zT := zin (List.mem_of_getElem? (i := 170) (by decide +kernel)) rfl
theorem wi_C_firstOpen : Cond.instanceMethod yC_firstOpen ∈ zT := zin (List.mem_of_getElem? (i := 171) (by decide +kernel)) rfl
theorem we_C_firstOpen : Cond.selects RC yC_firstOpen yC_firstOpen ∈ zT := zin (List.mem_of_getElem? (i := 172) (by decide +kernel)) rfl
theorem wl_C_28 : Cond.methodLink RC 28 yC_rowSum ∈ zT := zin (List.mem_of_getElem? (i := 174) (by decide +kernel)) rfl
theorem wi_C_rowSum : Cond.instanceMethod yC_rowSum ∈ zT := zin (List.mem_of_getElem? (i := 176) (by decide +kernel)) rfl
theorem wl_C_19 : Cond.methodLink RC 19 yC_start ∈ zT := zin (List.mem_of_getElem? (i := 178) (by decide +kernel)) rfl
theorem ws_C_start : Cond.static yC_start ∈ zT := zin (List.mem_of_getElem? (i := 179) (by decide +kernel)) rfl
theorem wl_C_32 : Cond.methodLink RC 32 yF_product ∈ zT := zin (List.mem_of_getElem? (i := 181) (by decide +kernel)) rfl
theorem wl_C_23 : Cond.methodLink RC 23 yF_sum ∈ zT := zin (List.mem_of_getElem? (i := 182) (by decide +kernel)) rfl
theorem ws_F_sum : Cond.static yF_sum ∈ zT := zin (List.mem_of_getElem? (i := 183) (by decide +kernel)) rfl
theorem wk_F_9 : Cond.constant RF 9 (998244353) ∈ zT := zin (List.mem_of_getElem? (i := 185) (by decide +kernel)) rfl
theorem wl_L_93 : Cond.methodLink RL 93 yM_proof ∈ zT := zin (List.mem_of_getElem? (i := 186) (by decide +kernel)) rfl
theorem wi_M_proof : Cond.instanceMethod yM_proof ∈ zT := zin (List.mem_of_getElem? (i := 187) (by decide +kernel)) rfl
theorem we_M_proof : Cond.selects RM yM_proof yM_proof ∈ zT := zin (List.mem_of_getElem? (i := 188) (by decide +kernel)) rfl
theorem wl_M_176 : Cond.methodLink RM 176 yQ_isMade ∈ zT := zin (List.mem_of_getElem? (i := 190) (by decide +kernel)) rfl
theorem wi_Q_isMade : Cond.instanceMethod yQ_isMade ∈ zT := zin (List.mem_of_getElem? (i := 191) (by decide +kernel)) rfl
theorem we_Q_isMade : Cond.selects RQ yQ_isMade yQ_isMade ∈ zT := zin (List.mem_of_getElem? (i := 192) (by decide +kernel)) rfl
theorem wl_M_56 : Cond.methodLink RM 56 yM_isBelow ∈ zT := zin (List.mem_of_getElem? (i := 194) (by decide +kernel)) rfl
theorem ws_M_isBelow : Cond.static yM_isBelow ∈ zT := zin (List.mem_of_getElem? (i := 195) (by decide +kernel)) rfl
theorem wl_M_180 : Cond.methodLink RM 180 yQ_element ∈ zT := zin (List.mem_of_getElem? (i := 197) (by decide +kernel)) rfl
theorem wi_Q_element : Cond.instanceMethod yQ_element ∈ zT := zin (List.mem_of_getElem? (i := 198) (by decide +kernel)) rfl
theorem we_Q_element : Cond.selects RQ yQ_element yQ_element ∈ zT := zin (List.mem_of_getElem? (i := 199) (by decide +kernel)) rfl
theorem wl_L_98 : Cond.methodLink RL 98 yM_quotient ∈ zT := zin (List.mem_of_getElem? (i := 201) (by decide +kernel)) rfl
theorem wi_M_quotient : Cond.instanceMethod yM_quotient ∈ zT := zin (List.mem_of_getElem? (i := 202) (by decide +kernel)) rfl
theorem we_M_quotient : Cond.selects RM yM_quotient yM_quotient ∈ zT := zin (List.mem_of_getElem? (i := 203) (by decide +kernel)) rfl
theorem wl_M_189 : Cond.methodLink RM 189 yQ_quotientCoefficient ∈ zT := zin (List.mem_of_getElem? (i := 205) (by decide +kernel)) rfl
theorem wi_Q_quotientCoefficient : Cond.instanceMethod yQ_quotientCoefficient ∈ zT := zin (List.mem_of_getElem? (i := 206) (by decide +kernel)) rfl
theorem we_Q_quotientCoefficient : Cond.selects RQ yQ_quotientCoefficient yQ_quotientCoefficient ∈ zT := zin (List.mem_of_getElem? (i := 207) (by decide +kernel)) rfl
theorem wl_L_102 : Cond.methodLink RL 102 yM_polynomial ∈ zT := zin (List.mem_of_getElem? (i := 209) (by decide +kernel)) rfl
theorem wi_M_polynomial : Cond.instanceMethod yM_polynomial ∈ zT := zin (List.mem_of_getElem? (i := 210) (by decide +kernel)) rfl
theorem we_M_polynomial : Cond.selects RM yM_polynomial yM_polynomial ∈ zT := zin (List.mem_of_getElem? (i := 211) (by decide +kernel)) rfl
theorem wl_M_112 : Cond.methodLink RM 112 yD_size ∈ zT := zin (List.mem_of_getElem? (i := 213) (by decide +kernel)) rfl
theorem wi_D_size : Cond.instanceMethod yD_size ∈ zT := zin (List.mem_of_getElem? (i := 214) (by decide +kernel)) rfl
theorem we_D_size : Cond.selects RD yD_size yD_size ∈ zT := zin (List.mem_of_getElem? (i := 215) (by decide +kernel)) rfl
theorem wl_M_192 : Cond.methodLink RM 192 yC_column ∈ zT := zin (List.mem_of_getElem? (i := 217) (by decide +kernel)) rfl
theorem wi_C_column : Cond.instanceMethod yC_column ∈ zT := zin (List.mem_of_getElem? (i := 218) (by decide +kernel)) rfl
theorem we_C_column : Cond.selects RC yC_column yC_column ∈ zT := zin (List.mem_of_getElem? (i := 219) (by decide +kernel)) rfl
theorem wl_M_196 : Cond.methodLink RM 196 yD_coefficient ∈ zT := zin (List.mem_of_getElem? (i := 221) (by decide +kernel)) rfl
theorem wi_D_coefficient : Cond.instanceMethod yD_coefficient ∈ zT := zin (List.mem_of_getElem? (i := 222) (by decide +kernel)) rfl
theorem we_D_coefficient : Cond.selects RD yD_coefficient yD_coefficient ∈ zT := zin (List.mem_of_getElem? (i := 223) (by decide +kernel)) rfl
theorem wl_D_42 : Cond.methodLink RD 42 yF_sum ∈ zT := zin (List.mem_of_getElem? (i := 225) (by decide +kernel)) rfl
theorem wl_L_106 : Cond.methodLink RL 106 yM_key ∈ zT := zin (List.mem_of_getElem? (i := 226) (by decide +kernel)) rfl
theorem wi_M_key : Cond.instanceMethod yM_key ∈ zT := zin (List.mem_of_getElem? (i := 227) (by decide +kernel)) rfl
theorem we_M_key : Cond.selects RM yM_key yM_key ∈ zT := zin (List.mem_of_getElem? (i := 228) (by decide +kernel)) rfl
theorem wl_M_115 : Cond.methodLink RM 115 yK_isMade ∈ zT := zin (List.mem_of_getElem? (i := 230) (by decide +kernel)) rfl
theorem wi_K_isMade : Cond.instanceMethod yK_isMade ∈ zT := zin (List.mem_of_getElem? (i := 231) (by decide +kernel)) rfl
theorem we_K_isMade : Cond.selects RK yK_isMade yK_isMade ∈ zT := zin (List.mem_of_getElem? (i := 232) (by decide +kernel)) rfl
theorem wl_M_157 : Cond.methodLink RM 157 yK_tau ∈ zT := zin (List.mem_of_getElem? (i := 234) (by decide +kernel)) rfl
theorem wi_K_tau : Cond.instanceMethod yK_tau ∈ zT := zin (List.mem_of_getElem? (i := 235) (by decide +kernel)) rfl
theorem we_K_tau : Cond.selects RK yK_tau yK_tau ∈ zT := zin (List.mem_of_getElem? (i := 236) (by decide +kernel)) rfl
theorem wl_M_200 : Cond.methodLink RM 200 yF_power ∈ zT := zin (List.mem_of_getElem? (i := 238) (by decide +kernel)) rfl
theorem wl_M_203 : Cond.methodLink RM 203 yK_sharedMix ∈ zT := zin (List.mem_of_getElem? (i := 239) (by decide +kernel)) rfl
theorem wi_K_sharedMix : Cond.instanceMethod yK_sharedMix ∈ zT := zin (List.mem_of_getElem? (i := 240) (by decide +kernel)) rfl
theorem we_K_sharedMix : Cond.selects RK yK_sharedMix yK_sharedMix ∈ zT := zin (List.mem_of_getElem? (i := 241) (by decide +kernel)) rfl
theorem wl_K_73 : Cond.methodLink RK 73 yF_ratio ∈ zT := zin (List.mem_of_getElem? (i := 243) (by decide +kernel)) rfl
theorem wl_M_206 : Cond.methodLink RM 206 yK_vanishingStep ∈ zT := zin (List.mem_of_getElem? (i := 244) (by decide +kernel)) rfl
theorem wi_K_vanishingStep : Cond.instanceMethod yK_vanishingStep ∈ zT := zin (List.mem_of_getElem? (i := 245) (by decide +kernel)) rfl
theorem we_K_vanishingStep : Cond.selects RK yK_vanishingStep yK_vanishingStep ∈ zT := zin (List.mem_of_getElem? (i := 246) (by decide +kernel)) rfl
theorem wl_K_76 : Cond.methodLink RK 76 yF_power ∈ zT := zin (List.mem_of_getElem? (i := 248) (by decide +kernel)) rfl
theorem wl_K_61 : Cond.methodLink RK 61 yF_product ∈ zT := zin (List.mem_of_getElem? (i := 249) (by decide +kernel)) rfl
theorem wl_L_111 : Cond.methodLink RL 111 yM_about ∈ zT := zin (List.mem_of_getElem? (i := 250) (by decide +kernel)) rfl
theorem wi_M_about : Cond.instanceMethod yM_about ∈ zT := zin (List.mem_of_getElem? (i := 251) (by decide +kernel)) rfl
theorem we_M_about : Cond.selects RM yM_about yM_about ∈ zT := zin (List.mem_of_getElem? (i := 252) (by decide +kernel)) rfl
theorem wl_M_68 : Cond.methodLink RM 68 yC_count ∈ zT := zin (List.mem_of_getElem? (i := 254) (by decide +kernel)) rfl
theorem wi_C_count : Cond.instanceMethod yC_count ∈ zT := zin (List.mem_of_getElem? (i := 255) (by decide +kernel)) rfl
theorem we_C_count : Cond.selects RC yC_count yC_count ∈ zT := zin (List.mem_of_getElem? (i := 256) (by decide +kernel)) rfl
theorem wl_L_52 : Cond.methodLink RL 52 yL_term ∈ zT := zin (List.mem_of_getElem? (i := 258) (by decide +kernel)) rfl
theorem ws_L_term : Cond.static yL_term ∈ zT := zin (List.mem_of_getElem? (i := 259) (by decide +kernel)) rfl
theorem wx_L_13 : Cond.classLink RL 13 "java/lang/IllegalArgumentException" ∈ zT := zin (List.mem_of_getElem? (i := 261) (by decide +kernel)) rfl
theorem wl_L_7 : Cond.methodLink RL 7 yM_term ∈ zT := zin (List.mem_of_getElem? (i := 262) (by decide +kernel)) rfl
theorem wi_M_term : Cond.instanceMethod yM_term ∈ zT := zin (List.mem_of_getElem? (i := 263) (by decide +kernel)) rfl
theorem we_M_term : Cond.selects RM yM_term yM_term ∈ zT := zin (List.mem_of_getElem? (i := 264) (by decide +kernel)) rfl
theorem wk_M_60 : Cond.constant RM 60 (998244353) ∈ zT := zin (List.mem_of_getElem? (i := 266) (by decide +kernel)) rfl
theorem wx_M_61 : Cond.classLink RM 61 "java/lang/IllegalArgumentException" ∈ zT := zin (List.mem_of_getElem? (i := 267) (by decide +kernel)) rfl
theorem wl_M_63 : Cond.methodLink RM 63 ⟨"java/lang/IllegalArgumentException", "<init>", "()V"⟩ ∈ zT := zin (List.mem_of_getElem? (i := 308) (by decide +kernel)) rfl
theorem wl_M_64 : Cond.methodLink RM 64 yC_growDraft ∈ zT := zin (List.mem_of_getElem? (i := 330) (by decide +kernel)) rfl
theorem wi_C_growDraft : Cond.instanceMethod yC_growDraft ∈ zT := zin (List.mem_of_getElem? (i := 331) (by decide +kernel)) rfl
theorem we_C_growDraft : Cond.selects RC yC_growDraft yC_growDraft ∈ zT := zin (List.mem_of_getElem? (i := 332) (by decide +kernel)) rfl
theorem wl_L_61 : Cond.methodLink RL 61 yL_constraint ∈ zT := zin (List.mem_of_getElem? (i := 334) (by decide +kernel)) rfl
theorem ws_L_constraint : Cond.static yL_constraint ∈ zT := zin (List.mem_of_getElem? (i := 335) (by decide +kernel)) rfl
theorem wx_L_19 : Cond.classLink RL 19 "java/lang/IllegalStateException" ∈ zT := zin (List.mem_of_getElem? (i := 337) (by decide +kernel)) rfl
theorem wl_L_15 : Cond.methodLink RL 15 yM_constraint ∈ zT := zin (List.mem_of_getElem? (i := 338) (by decide +kernel)) rfl
theorem wi_M_constraint : Cond.instanceMethod yM_constraint ∈ zT := zin (List.mem_of_getElem? (i := 339) (by decide +kernel)) rfl
theorem we_M_constraint : Cond.selects RM yM_constraint yM_constraint ∈ zT := zin (List.mem_of_getElem? (i := 340) (by decide +kernel)) rfl
theorem wx_M_72 : Cond.classLink RM 72 "java/lang/IllegalStateException" ∈ zT := zin (List.mem_of_getElem? (i := 342) (by decide +kernel)) rfl
theorem wl_M_74 : Cond.methodLink RM 74 ⟨"java/lang/IllegalStateException", "<init>", "()V"⟩ ∈ zT := zin (List.mem_of_getElem? (i := 351) (by decide +kernel)) rfl
theorem wl_M_75 : Cond.methodLink RM 75 yC_closeDraft ∈ zT := zin (List.mem_of_getElem? (i := 357) (by decide +kernel)) rfl
theorem wi_C_closeDraft : Cond.instanceMethod yC_closeDraft ∈ zT := zin (List.mem_of_getElem? (i := 358) (by decide +kernel)) rfl
theorem we_C_closeDraft : Cond.selects RC yC_closeDraft yC_closeDraft ∈ zT := zin (List.mem_of_getElem? (i := 359) (by decide +kernel)) rfl
theorem wl_M_78 : Cond.methodLink RM 78 yD_fit ∈ zT := zin (List.mem_of_getElem? (i := 361) (by decide +kernel)) rfl
theorem wl_M_82 : Cond.methodLink RM 82 yK_drop ∈ zT := zin (List.mem_of_getElem? (i := 362) (by decide +kernel)) rfl
theorem wi_K_drop : Cond.instanceMethod yK_drop ∈ zT := zin (List.mem_of_getElem? (i := 363) (by decide +kernel)) rfl
theorem we_K_drop : Cond.selects RK yK_drop yK_drop ∈ zT := zin (List.mem_of_getElem? (i := 364) (by decide +kernel)) rfl
theorem wl_L_65 : Cond.methodLink RL 65 yL_publics ∈ zT := zin (List.mem_of_getElem? (i := 366) (by decide +kernel)) rfl
theorem ws_L_publics : Cond.static yL_publics ∈ zT := zin (List.mem_of_getElem? (i := 367) (by decide +kernel)) rfl
theorem wl_L_21 : Cond.methodLink RL 21 yM_publics ∈ zT := zin (List.mem_of_getElem? (i := 369) (by decide +kernel)) rfl
theorem wi_M_publics : Cond.instanceMethod yM_publics ∈ zT := zin (List.mem_of_getElem? (i := 370) (by decide +kernel)) rfl
theorem we_M_publics : Cond.selects RM yM_publics yM_publics ∈ zT := zin (List.mem_of_getElem? (i := 371) (by decide +kernel)) rfl
theorem wl_L_69 : Cond.methodLink RL 69 yL_value ∈ zT := zin (List.mem_of_getElem? (i := 373) (by decide +kernel)) rfl
theorem ws_L_value : Cond.static yL_value ∈ zT := zin (List.mem_of_getElem? (i := 374) (by decide +kernel)) rfl
theorem wl_L_25 : Cond.methodLink RL 25 yM_value ∈ zT := zin (List.mem_of_getElem? (i := 376) (by decide +kernel)) rfl
theorem wi_M_value : Cond.instanceMethod yM_value ∈ zT := zin (List.mem_of_getElem? (i := 377) (by decide +kernel)) rfl
theorem we_M_value : Cond.selects RM yM_value yM_value ∈ zT := zin (List.mem_of_getElem? (i := 378) (by decide +kernel)) rfl
theorem wl_L_77 : Cond.methodLink RL 77 yL_setup ∈ zT := zin (List.mem_of_getElem? (i := 380) (by decide +kernel)) rfl
theorem ws_L_setup : Cond.static yL_setup ∈ zT := zin (List.mem_of_getElem? (i := 381) (by decide +kernel)) rfl
theorem wx_L_33 : Cond.classLink RL 33 "java/lang/ArithmeticException" ∈ zT := zin (List.mem_of_getElem? (i := 383) (by decide +kernel)) rfl
theorem wl_L_29 : Cond.methodLink RL 29 yM_setup ∈ zT := zin (List.mem_of_getElem? (i := 384) (by decide +kernel)) rfl
theorem wi_M_setup : Cond.instanceMethod yM_setup ∈ zT := zin (List.mem_of_getElem? (i := 385) (by decide +kernel)) rfl
theorem we_M_setup : Cond.selects RM yM_setup yM_setup ∈ zT := zin (List.mem_of_getElem? (i := 386) (by decide +kernel)) rfl
theorem wl_M_93 : Cond.methodLink RM 93 yM_isUnit ∈ zT := zin (List.mem_of_getElem? (i := 388) (by decide +kernel)) rfl
theorem ws_M_isUnit : Cond.static yM_isUnit ∈ zT := zin (List.mem_of_getElem? (i := 389) (by decide +kernel)) rfl
theorem wl_M_97 : Cond.methodLink RM 97 yD_vanishingAt ∈ zT := zin (List.mem_of_getElem? (i := 391) (by decide +kernel)) rfl
theorem wi_D_vanishingAt : Cond.instanceMethod yD_vanishingAt ∈ zT := zin (List.mem_of_getElem? (i := 392) (by decide +kernel)) rfl
theorem we_D_vanishingAt : Cond.selects RD yD_vanishingAt yD_vanishingAt ∈ zT := zin (List.mem_of_getElem? (i := 393) (by decide +kernel)) rfl
theorem wl_D_39 : Cond.methodLink RD 39 yF_difference ∈ zT := zin (List.mem_of_getElem? (i := 395) (by decide +kernel)) rfl
theorem ws_F_difference : Cond.static yF_difference ∈ zT := zin (List.mem_of_getElem? (i := 396) (by decide +kernel)) rfl
theorem wx_M_101 : Cond.classLink RM 101 "java/lang/ArithmeticException" ∈ zT := zin (List.mem_of_getElem? (i := 398) (by decide +kernel)) rfl
theorem wl_M_103 : Cond.methodLink RM 103 ⟨"java/lang/ArithmeticException", "<init>", "()V"⟩ ∈ zT := zin (List.mem_of_getElem? (i := 407) (by decide +kernel)) rfl
theorem wl_M_104 : Cond.methodLink RM 104 yK_take ∈ zT := zin (List.mem_of_getElem? (i := 413) (by decide +kernel)) rfl
theorem wi_K_take : Cond.instanceMethod yK_take ∈ zT := zin (List.mem_of_getElem? (i := 414) (by decide +kernel)) rfl
theorem we_K_take : Cond.selects RK yK_take yK_take ∈ zT := zin (List.mem_of_getElem? (i := 415) (by decide +kernel)) rfl
theorem wl_M_108 : Cond.methodLink RM 108 yK_mixAll ∈ zT := zin (List.mem_of_getElem? (i := 417) (by decide +kernel)) rfl
theorem wi_K_mixAll : Cond.instanceMethod yK_mixAll ∈ zT := zin (List.mem_of_getElem? (i := 418) (by decide +kernel)) rfl
theorem we_K_mixAll : Cond.selects RK yK_mixAll yK_mixAll ∈ zT := zin (List.mem_of_getElem? (i := 419) (by decide +kernel)) rfl
theorem wl_K_41 : Cond.methodLink RK 41 yD_vanishingAt ∈ zT := zin (List.mem_of_getElem? (i := 421) (by decide +kernel)) rfl
theorem wl_K_47 : Cond.methodLink RK 47 yD_size ∈ zT := zin (List.mem_of_getElem? (i := 422) (by decide +kernel)) rfl
theorem wl_K_51 : Cond.methodLink RK 51 yD_weight ∈ zT := zin (List.mem_of_getElem? (i := 423) (by decide +kernel)) rfl
theorem wi_D_weight : Cond.instanceMethod yD_weight ∈ zT := zin (List.mem_of_getElem? (i := 424) (by decide +kernel)) rfl
theorem we_D_weight : Cond.selects RD yD_weight yD_weight ∈ zT := zin (List.mem_of_getElem? (i := 425) (by decide +kernel)) rfl
theorem wl_K_55 : Cond.methodLink RK 55 yC_columnAt ∈ zT := zin (List.mem_of_getElem? (i := 427) (by decide +kernel)) rfl
theorem wi_C_columnAt : Cond.instanceMethod yC_columnAt ∈ zT := zin (List.mem_of_getElem? (i := 428) (by decide +kernel)) rfl
theorem we_C_columnAt : Cond.selects RC yC_columnAt yC_columnAt ∈ zT := zin (List.mem_of_getElem? (i := 429) (by decide +kernel)) rfl
theorem wl_K_66 : Cond.methodLink RK 66 yF_sum ∈ zT := zin (List.mem_of_getElem? (i := 431) (by decide +kernel)) rfl
theorem wl_L_81 : Cond.methodLink RL 81 yL_prove ∈ zT := zin (List.mem_of_getElem? (i := 432) (by decide +kernel)) rfl
theorem ws_L_prove : Cond.static yL_prove ∈ zT := zin (List.mem_of_getElem? (i := 433) (by decide +kernel)) rfl
theorem wl_L_35 : Cond.methodLink RL 35 yM_prove ∈ zT := zin (List.mem_of_getElem? (i := 435) (by decide +kernel)) rfl
theorem wi_M_prove : Cond.instanceMethod yM_prove ∈ zT := zin (List.mem_of_getElem? (i := 436) (by decide +kernel)) rfl
theorem we_M_prove : Cond.selects RM yM_prove yM_prove ∈ zT := zin (List.mem_of_getElem? (i := 437) (by decide +kernel)) rfl
theorem wl_M_119 : Cond.methodLink RM 119 yC_rowSums ∈ zT := zin (List.mem_of_getElem? (i := 439) (by decide +kernel)) rfl
theorem wi_C_rowSums : Cond.instanceMethod yC_rowSums ∈ zT := zin (List.mem_of_getElem? (i := 440) (by decide +kernel)) rfl
theorem we_C_rowSums : Cond.selects RC yC_rowSums yC_rowSums ∈ zT := zin (List.mem_of_getElem? (i := 441) (by decide +kernel)) rfl
theorem wl_M_123 : Cond.methodLink RM 123 yD_interpolate ∈ zT := zin (List.mem_of_getElem? (i := 443) (by decide +kernel)) rfl
theorem wi_D_interpolate : Cond.instanceMethod yD_interpolate ∈ zT := zin (List.mem_of_getElem? (i := 444) (by decide +kernel)) rfl
theorem we_D_interpolate : Cond.selects RD yD_interpolate yD_interpolate ∈ zT := zin (List.mem_of_getElem? (i := 445) (by decide +kernel)) rfl
theorem wl_D_45 : Cond.methodLink RD 45 yD_coefficient ∈ zT := zin (List.mem_of_getElem? (i := 447) (by decide +kernel)) rfl
theorem wl_M_127 : Cond.methodLink RM 127 yQ_divide ∈ zT := zin (List.mem_of_getElem? (i := 448) (by decide +kernel)) rfl
theorem wi_Q_divide : Cond.instanceMethod yQ_divide ∈ zT := zin (List.mem_of_getElem? (i := 449) (by decide +kernel)) rfl
theorem we_Q_divide : Cond.selects RQ yQ_divide yQ_divide ∈ zT := zin (List.mem_of_getElem? (i := 450) (by decide +kernel)) rfl
theorem wl_Q_22 : Cond.methodLink RQ 22 yF_product ∈ zT := zin (List.mem_of_getElem? (i := 452) (by decide +kernel)) rfl
theorem wl_Q_28 : Cond.methodLink RQ 28 yF_sum ∈ zT := zin (List.mem_of_getElem? (i := 453) (by decide +kernel)) rfl
theorem wl_M_131 : Cond.methodLink RM 131 yM_makeElements ∈ zT := zin (List.mem_of_getElem? (i := 454) (by decide +kernel)) rfl
theorem wi_M_makeElements : Cond.instanceMethod yM_makeElements ∈ zT := zin (List.mem_of_getElem? (i := 456) (by decide +kernel)) rfl
theorem wl_M_135 : Cond.methodLink RM 135 yK_delta ∈ zT := zin (List.mem_of_getElem? (i := 458) (by decide +kernel)) rfl
theorem wi_K_delta : Cond.instanceMethod yK_delta ∈ zT := zin (List.mem_of_getElem? (i := 459) (by decide +kernel)) rfl
theorem we_K_delta : Cond.selects RK yK_delta yK_delta ∈ zT := zin (List.mem_of_getElem? (i := 460) (by decide +kernel)) rfl
theorem wl_M_138 : Cond.methodLink RM 138 yK_firstElement ∈ zT := zin (List.mem_of_getElem? (i := 462) (by decide +kernel)) rfl
theorem wi_K_firstElement : Cond.instanceMethod yK_firstElement ∈ zT := zin (List.mem_of_getElem? (i := 463) (by decide +kernel)) rfl
theorem we_K_firstElement : Cond.selects RK yK_firstElement yK_firstElement ∈ zT := zin (List.mem_of_getElem? (i := 464) (by decide +kernel)) rfl
theorem wl_K_69 : Cond.methodLink RK 69 yK_atTau ∈ zT := zin (List.mem_of_getElem? (i := 466) (by decide +kernel)) rfl
theorem wi_K_atTau : Cond.instanceMethod yK_atTau ∈ zT := zin (List.mem_of_getElem? (i := 468) (by decide +kernel)) rfl
theorem wl_M_141 : Cond.methodLink RM 141 yF_product ∈ zT := zin (List.mem_of_getElem? (i := 470) (by decide +kernel)) rfl
theorem wl_M_147 : Cond.methodLink RM 147 yF_sum ∈ zT := zin (List.mem_of_getElem? (i := 471) (by decide +kernel)) rfl
theorem wl_M_150 : Cond.methodLink RM 150 yK_secondElement ∈ zT := zin (List.mem_of_getElem? (i := 472) (by decide +kernel)) rfl
theorem wi_K_secondElement : Cond.instanceMethod yK_secondElement ∈ zT := zin (List.mem_of_getElem? (i := 473) (by decide +kernel)) rfl
theorem we_K_secondElement : Cond.selects RK yK_secondElement yK_secondElement ∈ zT := zin (List.mem_of_getElem? (i := 474) (by decide +kernel)) rfl
theorem wl_M_153 : Cond.methodLink RM 153 yK_mixSum ∈ zT := zin (List.mem_of_getElem? (i := 476) (by decide +kernel)) rfl
theorem wi_K_mixSum : Cond.instanceMethod yK_mixSum ∈ zT := zin (List.mem_of_getElem? (i := 477) (by decide +kernel)) rfl
theorem we_K_mixSum : Cond.selects RK yK_mixSum yK_mixSum ∈ zT := zin (List.mem_of_getElem? (i := 478) (by decide +kernel)) rfl
theorem wl_M_160 : Cond.methodLink RM 160 yQ_quotientAt ∈ zT := zin (List.mem_of_getElem? (i := 480) (by decide +kernel)) rfl
theorem wi_Q_quotientAt : Cond.instanceMethod yQ_quotientAt ∈ zT := zin (List.mem_of_getElem? (i := 481) (by decide +kernel)) rfl
theorem we_Q_quotientAt : Cond.selects RQ yQ_quotientAt yQ_quotientAt ∈ zT := zin (List.mem_of_getElem? (i := 482) (by decide +kernel)) rfl
theorem wl_M_163 : Cond.methodLink RM 163 yK_vanishing ∈ zT := zin (List.mem_of_getElem? (i := 484) (by decide +kernel)) rfl
theorem wi_K_vanishing : Cond.instanceMethod yK_vanishing ∈ zT := zin (List.mem_of_getElem? (i := 485) (by decide +kernel)) rfl
theorem we_K_vanishing : Cond.selects RK yK_vanishing yK_vanishing ∈ zT := zin (List.mem_of_getElem? (i := 486) (by decide +kernel)) rfl
theorem wl_M_166 : Cond.methodLink RM 166 yF_ratio ∈ zT := zin (List.mem_of_getElem? (i := 488) (by decide +kernel)) rfl
theorem wl_M_169 : Cond.methodLink RM 169 yF_difference ∈ zT := zin (List.mem_of_getElem? (i := 489) (by decide +kernel)) rfl
theorem wl_M_172 : Cond.methodLink RM 172 yQ_keep ∈ zT := zin (List.mem_of_getElem? (i := 490) (by decide +kernel)) rfl
theorem wi_Q_keep : Cond.instanceMethod yQ_keep ∈ zT := zin (List.mem_of_getElem? (i := 491) (by decide +kernel)) rfl
theorem we_Q_keep : Cond.selects RQ yQ_keep yQ_keep ∈ zT := zin (List.mem_of_getElem? (i := 492) (by decide +kernel)) rfl
theorem wl_L_84 : Cond.methodLink RL 84 yL_alter ∈ zT := zin (List.mem_of_getElem? (i := 494) (by decide +kernel)) rfl
theorem ws_L_alter : Cond.static yL_alter ∈ zT := zin (List.mem_of_getElem? (i := 495) (by decide +kernel)) rfl
theorem wl_L_38 : Cond.methodLink RL 38 yM_alter ∈ zT := zin (List.mem_of_getElem? (i := 497) (by decide +kernel)) rfl
theorem wi_M_alter : Cond.instanceMethod yM_alter ∈ zT := zin (List.mem_of_getElem? (i := 498) (by decide +kernel)) rfl
theorem we_M_alter : Cond.selects RM yM_alter yM_alter ∈ zT := zin (List.mem_of_getElem? (i := 499) (by decide +kernel)) rfl
theorem wl_M_177 : Cond.methodLink RM 177 yQ_setElement ∈ zT := zin (List.mem_of_getElem? (i := 501) (by decide +kernel)) rfl
theorem wi_Q_setElement : Cond.instanceMethod yQ_setElement ∈ zT := zin (List.mem_of_getElem? (i := 502) (by decide +kernel)) rfl
theorem we_Q_setElement : Cond.selects RQ yQ_setElement yQ_setElement ∈ zT := zin (List.mem_of_getElem? (i := 503) (by decide +kernel)) rfl
theorem wl_L_87 : Cond.methodLink RL 87 yL_input ∈ zT := zin (List.mem_of_getElem? (i := 505) (by decide +kernel)) rfl
theorem ws_L_input : Cond.static yL_input ∈ zT := zin (List.mem_of_getElem? (i := 506) (by decide +kernel)) rfl
theorem wl_L_41 : Cond.methodLink RL 41 yM_input ∈ zT := zin (List.mem_of_getElem? (i := 508) (by decide +kernel)) rfl
theorem wi_M_input : Cond.instanceMethod yM_input ∈ zT := zin (List.mem_of_getElem? (i := 509) (by decide +kernel)) rfl
theorem we_M_input : Cond.selects RM yM_input yM_input ∈ zT := zin (List.mem_of_getElem? (i := 510) (by decide +kernel)) rfl
theorem wl_L_90 : Cond.methodLink RL 90 yL_verify ∈ zT := zin (List.mem_of_getElem? (i := 512) (by decide +kernel)) rfl
theorem ws_L_verify : Cond.static yL_verify ∈ zT := zin (List.mem_of_getElem? (i := 513) (by decide +kernel)) rfl
theorem wl_L_44 : Cond.methodLink RL 44 yM_verify ∈ zT := zin (List.mem_of_getElem? (i := 515) (by decide +kernel)) rfl
theorem wi_M_verify : Cond.instanceMethod yM_verify ∈ zT := zin (List.mem_of_getElem? (i := 516) (by decide +kernel)) rfl
theorem we_M_verify : Cond.selects RM yM_verify yM_verify ∈ zT := zin (List.mem_of_getElem? (i := 517) (by decide +kernel)) rfl
theorem wl_M_183 : Cond.methodLink RM 183 yK_alpha ∈ zT := zin (List.mem_of_getElem? (i := 519) (by decide +kernel)) rfl
theorem wi_K_alpha : Cond.instanceMethod yK_alpha ∈ zT := zin (List.mem_of_getElem? (i := 520) (by decide +kernel)) rfl
theorem we_K_alpha : Cond.selects RK yK_alpha yK_alpha ∈ zT := zin (List.mem_of_getElem? (i := 521) (by decide +kernel)) rfl
theorem wl_M_186 : Cond.methodLink RM 186 yK_beta ∈ zT := zin (List.mem_of_getElem? (i := 523) (by decide +kernel)) rfl
theorem wi_K_beta : Cond.instanceMethod yK_beta ∈ zT := zin (List.mem_of_getElem? (i := 524) (by decide +kernel)) rfl
theorem we_K_beta : Cond.selects RK yK_beta yK_beta ∈ zT := zin (List.mem_of_getElem? (i := 525) (by decide +kernel)) rfl
theorem wx_L_49 : Cond.classLink RL 49 RT ∈ zT := zin (List.mem_of_getElem? (i := 527) (by decide +kernel)) rfl
theorem wt_T : Cond.instantiable RT 19 ∈ zT := zin (List.mem_of_getElem? (i := 528) (by decide +kernel)) rfl
theorem wl_L_51 : Cond.methodLink RL 51 yT_init ∈ zT := zin (List.mem_of_getElem? (i := 529) (by decide +kernel)) rfl
theorem wi_T_init : Cond.instanceMethod yT_init ∈ zT := zin (List.mem_of_getElem? (i := 530) (by decide +kernel)) rfl
theorem wl_T_1 : Cond.methodLink RT 1 objectInit ∈ zT := zin (List.mem_of_getElem? (i := 532) (by decide +kernel)) rfl
theorem wf_T_34 : Cond.fieldLink RT 34 RT (TT 0).2.1 (TT 0).2.2.1 ∈ zT := zin (List.mem_of_getElem? (i := 533) (by decide +kernel)) rfl
theorem wf_T_7 : Cond.fieldLink RT 7 RT (TT 1).2.1 (TT 1).2.2.1 ∈ zT := zin (List.mem_of_getElem? (i := 534) (by decide +kernel)) rfl
theorem wf_T_46 : Cond.fieldLink RT 46 RT (TT 2).2.1 (TT 2).2.2.1 ∈ zT := zin (List.mem_of_getElem? (i := 535) (by decide +kernel)) rfl
theorem wf_T_57 : Cond.fieldLink RT 57 RT (TT 3).2.1 (TT 3).2.2.1 ∈ zT := zin (List.mem_of_getElem? (i := 536) (by decide +kernel)) rfl
theorem wf_T_13 : Cond.fieldLink RT 13 RT (TT 4).2.1 (TT 4).2.2.1 ∈ zT := zin (List.mem_of_getElem? (i := 537) (by decide +kernel)) rfl
theorem wf_T_16 : Cond.fieldLink RT 16 RT (TT 5).2.1 (TT 5).2.2.1 ∈ zT := zin (List.mem_of_getElem? (i := 538) (by decide +kernel)) rfl
theorem wf_T_53 : Cond.fieldLink RT 53 RT (TT 6).2.1 (TT 6).2.2.1 ∈ zT := zin (List.mem_of_getElem? (i := 539) (by decide +kernel)) rfl
theorem wf_T_83 : Cond.fieldLink RT 83 RT (TT 7).2.1 (TT 7).2.2.1 ∈ zT := zin (List.mem_of_getElem? (i := 540) (by decide +kernel)) rfl
theorem wf_T_90 : Cond.fieldLink RT 90 RT (TT 8).2.1 (TT 8).2.2.1 ∈ zT := zin (List.mem_of_getElem? (i := 541) (by decide +kernel)) rfl
theorem wf_T_93 : Cond.fieldLink RT 93 RT (TT 9).2.1 (TT 9).2.2.1 ∈ zT := zin (List.mem_of_getElem? (i := 542) (by decide +kernel)) rfl
theorem wf_T_96 : Cond.fieldLink RT 96 RT (TT 10).2.1 (TT 10).2.2.1 ∈ zT := zin (List.mem_of_getElem? (i := 543) (by decide +kernel)) rfl
theorem wf_T_99 : Cond.fieldLink RT 99 RT (TT 11).2.1 (TT 11).2.2.1 ∈ zT := zin (List.mem_of_getElem? (i := 544) (by decide +kernel)) rfl
theorem wf_T_102 : Cond.fieldLink RT 102 RT (TT 12).2.1 (TT 12).2.2.1 ∈ zT := zin (List.mem_of_getElem? (i := 545) (by decide +kernel)) rfl
theorem wf_T_19 : Cond.fieldLink RT 19 RT (TT 13).2.1 (TT 13).2.2.1 ∈ zT := zin (List.mem_of_getElem? (i := 546) (by decide +kernel)) rfl
theorem wf_T_119 : Cond.fieldLink RT 119 RT (TT 14).2.1 (TT 14).2.2.1 ∈ zT := zin (List.mem_of_getElem? (i := 547) (by decide +kernel)) rfl
theorem wf_T_22 : Cond.fieldLink RT 22 RT (TT 15).2.1 (TT 15).2.2.1 ∈ zT := zin (List.mem_of_getElem? (i := 548) (by decide +kernel)) rfl
theorem wf_T_25 : Cond.fieldLink RT 25 RT (TT 16).2.1 (TT 16).2.2.1 ∈ zT := zin (List.mem_of_getElem? (i := 549) (by decide +kernel)) rfl
theorem wf_T_28 : Cond.fieldLink RT 28 RT (TT 17).2.1 (TT 17).2.2.1 ∈ zT := zin (List.mem_of_getElem? (i := 550) (by decide +kernel)) rfl
theorem wf_T_31 : Cond.fieldLink RT 31 RT (TT 18).2.1 (TT 18).2.2.1 ∈ zT := zin (List.mem_of_getElem? (i := 551) (by decide +kernel)) rfl
theorem wa_long : Cond.arrayClass .long ∈ zT := zin (List.mem_of_getElem? (i := 591) (by decide +kernel)) rfl
theorem wl_L_58 : Cond.methodLink RL 58 yT_thrown ∈ zT := zin (List.mem_of_getElem? (i := 592) (by decide +kernel)) rfl
theorem wi_T_thrown : Cond.instanceMethod yT_thrown ∈ zT := zin (List.mem_of_getElem? (i := 593) (by decide +kernel)) rfl
theorem we_T_thrown : Cond.selects RT yT_thrown yT_thrown ∈ zT := zin (List.mem_of_getElem? (i := 594) (by decide +kernel)) rfl
theorem wl_L_57 : Cond.methodLink RL 57 yT_term ∈ zT := zin (List.mem_of_getElem? (i := 596) (by decide +kernel)) rfl
theorem wi_T_term : Cond.instanceMethod yT_term ∈ zT := zin (List.mem_of_getElem? (i := 597) (by decide +kernel)) rfl
theorem we_T_term : Cond.selects RT yT_term yT_term ∈ zT := zin (List.mem_of_getElem? (i := 598) (by decide +kernel)) rfl
theorem wl_T_49 : Cond.methodLink RT 49 yT_isNumber ∈ zT := zin (List.mem_of_getElem? (i := 600) (by decide +kernel)) rfl
theorem ws_T_isNumber : Cond.static yT_isNumber ∈ zT := zin (List.mem_of_getElem? (i := 601) (by decide +kernel)) rfl
theorem wk_T_38 : Cond.constantLong RT 38 (998244353) ∈ zT := zin (List.mem_of_getElem? (i := 603) (by decide +kernel)) rfl
theorem wl_L_64 : Cond.methodLink RL 64 yT_constraint ∈ zT := zin (List.mem_of_getElem? (i := 604) (by decide +kernel)) rfl
theorem wi_T_constraint : Cond.instanceMethod yT_constraint ∈ zT := zin (List.mem_of_getElem? (i := 605) (by decide +kernel)) rfl
theorem we_T_constraint : Cond.selects RT yT_constraint yT_constraint ∈ zT := zin (List.mem_of_getElem? (i := 606) (by decide +kernel)) rfl
theorem wl_L_68 : Cond.methodLink RL 68 yT_publics ∈ zT := zin (List.mem_of_getElem? (i := 608) (by decide +kernel)) rfl
theorem wi_T_publics : Cond.instanceMethod yT_publics ∈ zT := zin (List.mem_of_getElem? (i := 609) (by decide +kernel)) rfl
theorem we_T_publics : Cond.selects RT yT_publics yT_publics ∈ zT := zin (List.mem_of_getElem? (i := 610) (by decide +kernel)) rfl
theorem wl_L_72 : Cond.methodLink RL 72 yT_value ∈ zT := zin (List.mem_of_getElem? (i := 612) (by decide +kernel)) rfl
theorem wi_T_value : Cond.instanceMethod yT_value ∈ zT := zin (List.mem_of_getElem? (i := 613) (by decide +kernel)) rfl
theorem we_T_value : Cond.selects RT yT_value yT_value ∈ zT := zin (List.mem_of_getElem? (i := 614) (by decide +kernel)) rfl
theorem wl_L_76 : Cond.methodLink RL 76 yT_open ∈ zT := zin (List.mem_of_getElem? (i := 616) (by decide +kernel)) rfl
theorem wi_T_open : Cond.instanceMethod yT_open ∈ zT := zin (List.mem_of_getElem? (i := 617) (by decide +kernel)) rfl
theorem we_T_open : Cond.selects RT yT_open yT_open ∈ zT := zin (List.mem_of_getElem? (i := 618) (by decide +kernel)) rfl
theorem wl_T_64 : Cond.methodLink RT 64 yT_firstOpen ∈ zT := zin (List.mem_of_getElem? (i := 620) (by decide +kernel)) rfl
theorem wi_T_firstOpen : Cond.instanceMethod yT_firstOpen ∈ zT := zin (List.mem_of_getElem? (i := 622) (by decide +kernel)) rfl
theorem wl_T_60 : Cond.methodLink RT 60 yT_sumOf ∈ zT := zin (List.mem_of_getElem? (i := 624) (by decide +kernel)) rfl
theorem wi_T_sumOf : Cond.instanceMethod yT_sumOf ∈ zT := zin (List.mem_of_getElem? (i := 626) (by decide +kernel)) rfl
theorem wl_L_105 : Cond.methodLink RL 105 yT_polynomial ∈ zT := zin (List.mem_of_getElem? (i := 628) (by decide +kernel)) rfl
theorem wi_T_polynomial : Cond.instanceMethod yT_polynomial ∈ zT := zin (List.mem_of_getElem? (i := 629) (by decide +kernel)) rfl
theorem we_T_polynomial : Cond.selects RT yT_polynomial yT_polynomial ∈ zT := zin (List.mem_of_getElem? (i := 630) (by decide +kernel)) rfl
theorem wl_T_68 : Cond.methodLink RT 68 yT_size ∈ zT := zin (List.mem_of_getElem? (i := 632) (by decide +kernel)) rfl
theorem wi_T_size : Cond.instanceMethod yT_size ∈ zT := zin (List.mem_of_getElem? (i := 634) (by decide +kernel)) rfl
theorem wl_T_79 : Cond.methodLink RT 79 yT_coefficient ∈ zT := zin (List.mem_of_getElem? (i := 636) (by decide +kernel)) rfl
theorem wi_T_coefficient : Cond.instanceMethod yT_coefficient ∈ zT := zin (List.mem_of_getElem? (i := 638) (by decide +kernel)) rfl
theorem wk_T_71 : Cond.constantLong RT 71 (3) ∈ zT := zin (List.mem_of_getElem? (i := 640) (by decide +kernel)) rfl
theorem wk_T_73 : Cond.constantLong RT 73 (998244352) ∈ zT := zin (List.mem_of_getElem? (i := 641) (by decide +kernel)) rfl
theorem wl_T_42 : Cond.methodLink RT 42 yT_power ∈ zT := zin (List.mem_of_getElem? (i := 642) (by decide +kernel)) rfl
theorem ws_T_power : Cond.static yT_power ∈ zT := zin (List.mem_of_getElem? (i := 643) (by decide +kernel)) rfl
theorem wl_T_75 : Cond.methodLink RT 75 yT_inverse ∈ zT := zin (List.mem_of_getElem? (i := 645) (by decide +kernel)) rfl
theorem ws_T_inverse : Cond.static yT_inverse ∈ zT := zin (List.mem_of_getElem? (i := 646) (by decide +kernel)) rfl
theorem wk_T_40 : Cond.constantLong RT 40 (998244351) ∈ zT := zin (List.mem_of_getElem? (i := 648) (by decide +kernel)) rfl
theorem wl_L_80 : Cond.methodLink RL 80 yT_setup ∈ zT := zin (List.mem_of_getElem? (i := 649) (by decide +kernel)) rfl
theorem wi_T_setup : Cond.instanceMethod yT_setup ∈ zT := zin (List.mem_of_getElem? (i := 650) (by decide +kernel)) rfl
theorem we_T_setup : Cond.selects RT yT_setup yT_setup ∈ zT := zin (List.mem_of_getElem? (i := 651) (by decide +kernel)) rfl
theorem wl_T_87 : Cond.methodLink RT 87 yT_less ∈ zT := zin (List.mem_of_getElem? (i := 653) (by decide +kernel)) rfl
theorem ws_T_less : Cond.static yT_less ∈ zT := zin (List.mem_of_getElem? (i := 654) (by decide +kernel)) rfl
theorem wl_T_105 : Cond.methodLink RT 105 yT_atTau ∈ zT := zin (List.mem_of_getElem? (i := 656) (by decide +kernel)) rfl
theorem wi_T_atTau : Cond.instanceMethod yT_atTau ∈ zT := zin (List.mem_of_getElem? (i := 658) (by decide +kernel)) rfl
theorem wl_L_83 : Cond.methodLink RL 83 yT_prove ∈ zT := zin (List.mem_of_getElem? (i := 660) (by decide +kernel)) rfl
theorem wi_T_prove : Cond.instanceMethod yT_prove ∈ zT := zin (List.mem_of_getElem? (i := 661) (by decide +kernel)) rfl
theorem we_T_prove : Cond.selects RT yT_prove yT_prove ∈ zT := zin (List.mem_of_getElem? (i := 662) (by decide +kernel)) rfl
theorem wl_T_108 : Cond.methodLink RT 108 yT_sum ∈ zT := zin (List.mem_of_getElem? (i := 664) (by decide +kernel)) rfl
theorem wi_T_sum : Cond.instanceMethod yT_sum ∈ zT := zin (List.mem_of_getElem? (i := 666) (by decide +kernel)) rfl
theorem wl_T_112 : Cond.methodLink RT 112 yT_divide ∈ zT := zin (List.mem_of_getElem? (i := 668) (by decide +kernel)) rfl
theorem wi_T_divide : Cond.instanceMethod yT_divide ∈ zT := zin (List.mem_of_getElem? (i := 670) (by decide +kernel)) rfl
theorem wl_T_115 : Cond.methodLink RT 115 yT_sumAtTau ∈ zT := zin (List.mem_of_getElem? (i := 672) (by decide +kernel)) rfl
theorem wi_T_sumAtTau : Cond.instanceMethod yT_sumAtTau ∈ zT := zin (List.mem_of_getElem? (i := 674) (by decide +kernel)) rfl
theorem wl_L_86 : Cond.methodLink RL 86 yT_alter ∈ zT := zin (List.mem_of_getElem? (i := 676) (by decide +kernel)) rfl
theorem wi_T_alter : Cond.instanceMethod yT_alter ∈ zT := zin (List.mem_of_getElem? (i := 677) (by decide +kernel)) rfl
theorem we_T_alter : Cond.selects RT yT_alter yT_alter ∈ zT := zin (List.mem_of_getElem? (i := 678) (by decide +kernel)) rfl
theorem wl_L_89 : Cond.methodLink RL 89 yT_input ∈ zT := zin (List.mem_of_getElem? (i := 680) (by decide +kernel)) rfl
theorem wi_T_input : Cond.instanceMethod yT_input ∈ zT := zin (List.mem_of_getElem? (i := 681) (by decide +kernel)) rfl
theorem we_T_input : Cond.selects RT yT_input yT_input ∈ zT := zin (List.mem_of_getElem? (i := 682) (by decide +kernel)) rfl
theorem wl_L_92 : Cond.methodLink RL 92 yT_verify ∈ zT := zin (List.mem_of_getElem? (i := 684) (by decide +kernel)) rfl
theorem wi_T_verify : Cond.instanceMethod yT_verify ∈ zT := zin (List.mem_of_getElem? (i := 685) (by decide +kernel)) rfl
theorem we_T_verify : Cond.selects RT yT_verify yT_verify ∈ zT := zin (List.mem_of_getElem? (i := 686) (by decide +kernel)) rfl
theorem wl_L_97 : Cond.methodLink RL 97 yT_proof ∈ zT := zin (List.mem_of_getElem? (i := 688) (by decide +kernel)) rfl
theorem wi_T_proof : Cond.instanceMethod yT_proof ∈ zT := zin (List.mem_of_getElem? (i := 689) (by decide +kernel)) rfl
theorem we_T_proof : Cond.selects RT yT_proof yT_proof ∈ zT := zin (List.mem_of_getElem? (i := 690) (by decide +kernel)) rfl
theorem wl_L_101 : Cond.methodLink RL 101 yT_quotient ∈ zT := zin (List.mem_of_getElem? (i := 692) (by decide +kernel)) rfl
theorem wi_T_quotient : Cond.instanceMethod yT_quotient ∈ zT := zin (List.mem_of_getElem? (i := 693) (by decide +kernel)) rfl
theorem we_T_quotient : Cond.selects RT yT_quotient yT_quotient ∈ zT := zin (List.mem_of_getElem? (i := 694) (by decide +kernel)) rfl
theorem wl_L_110 : Cond.methodLink RL 110 yT_key ∈ zT := zin (List.mem_of_getElem? (i := 696) (by decide +kernel)) rfl
theorem wi_T_key : Cond.instanceMethod yT_key ∈ zT := zin (List.mem_of_getElem? (i := 697) (by decide +kernel)) rfl
theorem we_T_key : Cond.selects RT yT_key yT_key ∈ zT := zin (List.mem_of_getElem? (i := 698) (by decide +kernel)) rfl
theorem wl_L_114 : Cond.methodLink RL 114 yT_about ∈ zT := zin (List.mem_of_getElem? (i := 700) (by decide +kernel)) rfl
theorem wi_T_about : Cond.instanceMethod yT_about ∈ zT := zin (List.mem_of_getElem? (i := 701) (by decide +kernel)) rfl
theorem we_T_about : Cond.selects RT yT_about yT_about ∈ zT := zin (List.mem_of_getElem? (i := 702) (by decide +kernel)) rfl
theorem we_C_rowSum : Cond.selects RC yC_rowSum yC_rowSum ∈ zT := zin (List.mem_of_getElem? (i := 0) (by decide +kernel)) rfl
theorem we_M_makeElements : Cond.selects RM yM_makeElements yM_makeElements ∈ zT := zin (List.mem_of_getElem? (i := 2) (by decide +kernel)) rfl
theorem we_K_atTau : Cond.selects RK yK_atTau yK_atTau ∈ zT := zin (List.mem_of_getElem? (i := 3) (by decide +kernel)) rfl
theorem we_T_firstOpen : Cond.selects RT yT_firstOpen yT_firstOpen ∈ zT := zin (List.mem_of_getElem? (i := 4) (by decide +kernel)) rfl
theorem we_T_sumOf : Cond.selects RT yT_sumOf yT_sumOf ∈ zT := zin (List.mem_of_getElem? (i := 5) (by decide +kernel)) rfl
theorem we_T_size : Cond.selects RT yT_size yT_size ∈ zT := zin (List.mem_of_getElem? (i := 6) (by decide +kernel)) rfl
theorem we_T_coefficient : Cond.selects RT yT_coefficient yT_coefficient ∈ zT := zin (List.mem_of_getElem? (i := 7) (by decide +kernel)) rfl
theorem we_T_atTau : Cond.selects RT yT_atTau yT_atTau ∈ zT := zin (List.mem_of_getElem? (i := 8) (by decide +kernel)) rfl
theorem we_T_sum : Cond.selects RT yT_sum yT_sum ∈ zT := zin (List.mem_of_getElem? (i := 9) (by decide +kernel)) rfl
theorem we_T_divide : Cond.selects RT yT_divide yT_divide ∈ zT := zin (List.mem_of_getElem? (i := 10) (by decide +kernel)) rfl
theorem we_T_sumAtTau : Cond.selects RT yT_sumAtTau yT_sumAtTau ∈ zT := zin (List.mem_of_getElem? (i := 11) (by decide +kernel)) rfl
theorem wi_obj : Cond.instanceMethod objectInit ∈ zT := zin (List.mem_of_getElem? (i := 32) (by decide +kernel)) rfl
theorem wc_obj : Cond.code objectInit ⟨#[0xb1]⟩ 1 none ∈ zT := zin (List.mem_of_getElem? (i := 33) (by decide +kernel)) rfl
theorem kk_M_init : zkI yM_init cM_init 1 0 := ⟨⟨wi_M_init, rfl⟩, wn_M, wc_M_init, by decide +kernel⟩
theorem kk_C_init : zkI yC_init cC_init 1 0 := ⟨⟨wi_C_init, rfl⟩, wn_C, wc_C_init, by decide +kernel⟩
theorem kk_D_init : zkI yD_init cD_init 1 0 := ⟨⟨wi_D_init, rfl⟩, wn_D, wc_D_init, by decide +kernel⟩
theorem kk_D_fit : zkV yD_fit cD_fit 5 none 1 := ⟨⟨wi_D_fit, we_D_fit⟩, wn_D, wc_D_fit, by decide +kernel⟩
theorem kk_F_ratio : zkS yF_ratio cF_ratio 2 (.some .int) 2 := ⟨ws_F_ratio, wn_F, wc_F_ratio, by decide +kernel⟩
theorem kk_F_power : zkS yF_power cF_power 5 (.some .int) 2 := ⟨ws_F_power, wn_F, wc_F_power, by decide +kernel⟩
theorem kk_F_product : zkS yF_product cF_product 2 (.some .int) 2 := ⟨ws_F_product, wn_F, wc_F_product, by decide +kernel⟩
theorem kk_K_init : zkI yK_init cK_init 1 0 := ⟨⟨wi_K_init, rfl⟩, wn_K, wc_K_init, by decide +kernel⟩
theorem kk_Q_init : zkI yQ_init cQ_init 1 0 := ⟨⟨wi_Q_init, rfl⟩, wn_Q, wc_Q_init, by decide +kernel⟩
theorem kk_M_open : zkV yM_open cM_open 1 (.some .int) 0 := ⟨⟨wi_M_open, we_M_open⟩, wn_M, wc_M_open, by decide +kernel⟩
theorem kk_C_firstOpen : zkV yC_firstOpen cC_firstOpen 4 (.some .int) 1 := ⟨⟨wi_C_firstOpen, we_C_firstOpen⟩, wn_C, wc_C_firstOpen, by decide +kernel⟩
theorem kk_C_rowSum : zkV yC_rowSum cC_rowSum 7 (.some .int) 3 := ⟨⟨wi_C_rowSum, we_C_rowSum⟩, wn_C, wc_C_rowSum, by decide +kernel⟩
theorem kk_C_start : zkS yC_start cC_start 2 (.some .int) 2 := ⟨ws_C_start, wn_C, wc_C_start, by decide +kernel⟩
theorem kk_F_sum : zkS yF_sum cF_sum 3 (.some .int) 2 := ⟨ws_F_sum, wn_F, wc_F_sum, by decide +kernel⟩
theorem kk_M_proof : zkV yM_proof cM_proof 2 (.some .int) 1 := ⟨⟨wi_M_proof, we_M_proof⟩, wn_M, wc_M_proof, by decide +kernel⟩
theorem kk_Q_isMade : zkV yQ_isMade cQ_isMade 1 (.some .boolean) 0 := ⟨⟨wi_Q_isMade, we_Q_isMade⟩, wn_Q, wc_Q_isMade, by decide +kernel⟩
theorem kk_M_isBelow : zkS yM_isBelow cM_isBelow 2 (.some .boolean) 2 := ⟨ws_M_isBelow, wn_M, wc_M_isBelow, by decide +kernel⟩
theorem kk_Q_element : zkV yQ_element cQ_element 2 (.some .int) 1 := ⟨⟨wi_Q_element, we_Q_element⟩, wn_Q, wc_Q_element, by decide +kernel⟩
theorem kk_M_quotient : zkV yM_quotient cM_quotient 2 (.some .int) 1 := ⟨⟨wi_M_quotient, we_M_quotient⟩, wn_M, wc_M_quotient, by decide +kernel⟩
theorem kk_Q_quotientCoefficient : zkV yQ_quotientCoefficient cQ_quotientCoefficient 2 (.some .int) 1 := ⟨⟨wi_Q_quotientCoefficient, we_Q_quotientCoefficient⟩, wn_Q, wc_Q_quotientCoefficient, by decide +kernel⟩
theorem kk_M_polynomial : zkV yM_polynomial cM_polynomial 4 (.some .int) 3 := ⟨⟨wi_M_polynomial, we_M_polynomial⟩, wn_M, wc_M_polynomial, by decide +kernel⟩
theorem kk_D_size : zkV yD_size cD_size 1 (.some .int) 0 := ⟨⟨wi_D_size, we_D_size⟩, wn_D, wc_D_size, by decide +kernel⟩
theorem kk_C_column : zkV yC_column cC_column 5 none 3 := ⟨⟨wi_C_column, we_C_column⟩, wn_C, wc_C_column, by decide +kernel⟩
theorem kk_D_coefficient : zkV yD_coefficient cD_coefficient 5 (.some .int) 2 := ⟨⟨wi_D_coefficient, we_D_coefficient⟩, wn_D, wc_D_coefficient, by decide +kernel⟩
theorem kk_M_key : zkV yM_key cM_key 3 (.some .int) 2 := ⟨⟨wi_M_key, we_M_key⟩, wn_M, wc_M_key, by decide +kernel⟩
theorem kk_K_isMade : zkV yK_isMade cK_isMade 1 (.some .boolean) 0 := ⟨⟨wi_K_isMade, we_K_isMade⟩, wn_K, wc_K_isMade, by decide +kernel⟩
theorem kk_K_tau : zkV yK_tau cK_tau 1 (.some .int) 0 := ⟨⟨wi_K_tau, we_K_tau⟩, wn_K, wc_K_tau, by decide +kernel⟩
theorem kk_K_sharedMix : zkV yK_sharedMix cK_sharedMix 3 (.some .int) 2 := ⟨⟨wi_K_sharedMix, we_K_sharedMix⟩, wn_K, wc_K_sharedMix, by decide +kernel⟩
theorem kk_K_vanishingStep : zkV yK_vanishingStep cK_vanishingStep 2 (.some .int) 1 := ⟨⟨wi_K_vanishingStep, we_K_vanishingStep⟩, wn_K, wc_K_vanishingStep, by decide +kernel⟩
theorem kk_M_about : zkV yM_about cM_about 2 (.some .int) 1 := ⟨⟨wi_M_about, we_M_about⟩, wn_M, wc_M_about, by decide +kernel⟩
theorem kk_C_count : zkV yC_count cC_count 1 (.some .int) 0 := ⟨⟨wi_C_count, we_C_count⟩, wn_C, wc_C_count, by decide +kernel⟩
theorem kk_M_term : zkV yM_term cM_term 4 (.some .int) 3 := ⟨⟨wi_M_term, we_M_term⟩, wn_M, wc_M_term, by decide +kernel⟩
theorem kk_C_growDraft : zkV yC_growDraft cC_growDraft 5 (.some .int) 3 := ⟨⟨wi_C_growDraft, we_C_growDraft⟩, wn_C, wc_C_growDraft, by decide +kernel⟩
theorem kk_M_constraint : zkV yM_constraint cM_constraint 2 (.some .int) 0 := ⟨⟨wi_M_constraint, we_M_constraint⟩, wn_M, wc_M_constraint, by decide +kernel⟩
theorem kk_C_closeDraft : zkV yC_closeDraft cC_closeDraft 2 (.some .int) 0 := ⟨⟨wi_C_closeDraft, we_C_closeDraft⟩, wn_C, wc_C_closeDraft, by decide +kernel⟩
theorem kk_K_drop : zkV yK_drop cK_drop 1 none 0 := ⟨⟨wi_K_drop, we_K_drop⟩, wn_K, wc_K_drop, by decide +kernel⟩
theorem kk_M_publics : zkV yM_publics cM_publics 2 (.some .boolean) 1 := ⟨⟨wi_M_publics, we_M_publics⟩, wn_M, wc_M_publics, by decide +kernel⟩
theorem kk_M_value : zkV yM_value cM_value 3 (.some .boolean) 2 := ⟨⟨wi_M_value, we_M_value⟩, wn_M, wc_M_value, by decide +kernel⟩
theorem kk_M_setup : zkV yM_setup cM_setup 6 (.some .int) 5 := ⟨⟨wi_M_setup, we_M_setup⟩, wn_M, wc_M_setup, by decide +kernel⟩
theorem kk_M_isUnit : zkS yM_isUnit cM_isUnit 1 (.some .boolean) 1 := ⟨ws_M_isUnit, wn_M, wc_M_isUnit, by decide +kernel⟩
theorem kk_D_vanishingAt : zkV yD_vanishingAt cD_vanishingAt 2 (.some .int) 1 := ⟨⟨wi_D_vanishingAt, we_D_vanishingAt⟩, wn_D, wc_D_vanishingAt, by decide +kernel⟩
theorem kk_F_difference : zkS yF_difference cF_difference 2 (.some .int) 2 := ⟨ws_F_difference, wn_F, wc_F_difference, by decide +kernel⟩
theorem kk_K_take : zkV yK_take cK_take 6 none 5 := ⟨⟨wi_K_take, we_K_take⟩, wn_K, wc_K_take, by decide +kernel⟩
theorem kk_K_mixAll : zkV yK_mixAll cK_mixAll 6 none 2 := ⟨⟨wi_K_mixAll, we_K_mixAll⟩, wn_K, wc_K_mixAll, by decide +kernel⟩
theorem kk_D_weight : zkV yD_weight cD_weight 6 (.some .int) 2 := ⟨⟨wi_D_weight, we_D_weight⟩, wn_D, wc_D_weight, by decide +kernel⟩
theorem kk_C_columnAt : zkV yC_columnAt cC_columnAt 6 (.some .int) 3 := ⟨⟨wi_C_columnAt, we_C_columnAt⟩, wn_C, wc_C_columnAt, by decide +kernel⟩
theorem kk_M_prove : zkV yM_prove cM_prove 3 (.some .boolean) 2 := ⟨⟨wi_M_prove, we_M_prove⟩, wn_M, wc_M_prove, by decide +kernel⟩
theorem kk_C_rowSums : zkV yC_rowSums cC_rowSums 5 none 3 := ⟨⟨wi_C_rowSums, we_C_rowSums⟩, wn_C, wc_C_rowSums, by decide +kernel⟩
theorem kk_D_interpolate : zkV yD_interpolate cD_interpolate 4 none 2 := ⟨⟨wi_D_interpolate, we_D_interpolate⟩, wn_D, wc_D_interpolate, by decide +kernel⟩
theorem kk_Q_divide : zkV yQ_divide cQ_divide 7 none 3 := ⟨⟨wi_Q_divide, we_Q_divide⟩, wn_Q, wc_Q_divide, by decide +kernel⟩
theorem kk_M_makeElements : zkV yM_makeElements cM_makeElements 8 none 2 := ⟨⟨wi_M_makeElements, we_M_makeElements⟩, wn_M, wc_M_makeElements, by decide +kernel⟩
theorem kk_K_delta : zkV yK_delta cK_delta 1 (.some .int) 0 := ⟨⟨wi_K_delta, we_K_delta⟩, wn_K, wc_K_delta, by decide +kernel⟩
theorem kk_K_firstElement : zkV yK_firstElement cK_firstElement 2 (.some .int) 1 := ⟨⟨wi_K_firstElement, we_K_firstElement⟩, wn_K, wc_K_firstElement, by decide +kernel⟩
theorem kk_K_atTau : zkV yK_atTau cK_atTau 4 (.some .int) 1 := ⟨⟨wi_K_atTau, we_K_atTau⟩, wn_K, wc_K_atTau, by decide +kernel⟩
theorem kk_K_secondElement : zkV yK_secondElement cK_secondElement 2 (.some .int) 1 := ⟨⟨wi_K_secondElement, we_K_secondElement⟩, wn_K, wc_K_secondElement, by decide +kernel⟩
theorem kk_K_mixSum : zkV yK_mixSum cK_mixSum 6 (.some .int) 3 := ⟨⟨wi_K_mixSum, we_K_mixSum⟩, wn_K, wc_K_mixSum, by decide +kernel⟩
theorem kk_Q_quotientAt : zkV yQ_quotientAt cQ_quotientAt 4 (.some .int) 1 := ⟨⟨wi_Q_quotientAt, we_Q_quotientAt⟩, wn_Q, wc_Q_quotientAt, by decide +kernel⟩
theorem kk_K_vanishing : zkV yK_vanishing cK_vanishing 1 (.some .int) 0 := ⟨⟨wi_K_vanishing, we_K_vanishing⟩, wn_K, wc_K_vanishing, by decide +kernel⟩
theorem kk_Q_keep : zkV yQ_keep cQ_keep 4 none 3 := ⟨⟨wi_Q_keep, we_Q_keep⟩, wn_Q, wc_Q_keep, by decide +kernel⟩
theorem kk_M_alter : zkV yM_alter cM_alter 3 (.some .boolean) 2 := ⟨⟨wi_M_alter, we_M_alter⟩, wn_M, wc_M_alter, by decide +kernel⟩
theorem kk_Q_setElement : zkV yQ_setElement cQ_setElement 3 none 2 := ⟨⟨wi_Q_setElement, we_Q_setElement⟩, wn_Q, wc_Q_setElement, by decide +kernel⟩
theorem kk_M_input : zkV yM_input cM_input 3 (.some .boolean) 2 := ⟨⟨wi_M_input, we_M_input⟩, wn_M, wc_M_input, by decide +kernel⟩
theorem kk_M_verify : zkV yM_verify cM_verify 3 (.some .boolean) 0 := ⟨⟨wi_M_verify, we_M_verify⟩, wn_M, wc_M_verify, by decide +kernel⟩
theorem kk_K_alpha : zkV yK_alpha cK_alpha 1 (.some .int) 0 := ⟨⟨wi_K_alpha, we_K_alpha⟩, wn_K, wc_K_alpha, by decide +kernel⟩
theorem kk_K_beta : zkV yK_beta cK_beta 1 (.some .int) 0 := ⟨⟨wi_K_beta, we_K_beta⟩, wn_K, wc_K_beta, by decide +kernel⟩
theorem kk_T_init : zkI yT_init cT_init 1 0 := ⟨⟨wi_T_init, rfl⟩, wn_T, wc_T_init, by decide +kernel⟩
theorem kk_T_thrown : zkV yT_thrown cT_thrown 1 (.some .int) 0 := ⟨⟨wi_T_thrown, we_T_thrown⟩, wn_T, wc_T_thrown, by decide +kernel⟩
theorem kk_T_term : zkV yT_term cT_term 5 (.some .int) 3 := ⟨⟨wi_T_term, we_T_term⟩, wn_T, wc_T_term, by decide +kernel⟩
theorem kk_T_isNumber : zkS yT_isNumber cT_isNumber 1 (.some .boolean) 1 := ⟨ws_T_isNumber, wn_T, wc_T_isNumber, by decide +kernel⟩
theorem kk_T_constraint : zkV yT_constraint cT_constraint 2 (.some .int) 0 := ⟨⟨wi_T_constraint, we_T_constraint⟩, wn_T, wc_T_constraint, by decide +kernel⟩
theorem kk_T_publics : zkV yT_publics cT_publics 2 (.some .boolean) 1 := ⟨⟨wi_T_publics, we_T_publics⟩, wn_T, wc_T_publics, by decide +kernel⟩
theorem kk_T_value : zkV yT_value cT_value 3 (.some .boolean) 2 := ⟨⟨wi_T_value, we_T_value⟩, wn_T, wc_T_value, by decide +kernel⟩
theorem kk_T_open : zkV yT_open cT_open 1 (.some .int) 0 := ⟨⟨wi_T_open, we_T_open⟩, wn_T, wc_T_open, by decide +kernel⟩
theorem kk_T_firstOpen : zkV yT_firstOpen cT_firstOpen 4 (.some .int) 0 := ⟨⟨wi_T_firstOpen, we_T_firstOpen⟩, wn_T, wc_T_firstOpen, by decide +kernel⟩
theorem kk_T_sumOf : zkV yT_sumOf cT_sumOf 6 (.some .long) 2 := ⟨⟨wi_T_sumOf, we_T_sumOf⟩, wn_T, wc_T_sumOf, by decide +kernel⟩
theorem kk_T_polynomial : zkV yT_polynomial cT_polynomial 4 (.some .int) 3 := ⟨⟨wi_T_polynomial, we_T_polynomial⟩, wn_T, wc_T_polynomial, by decide +kernel⟩
theorem kk_T_size : zkV yT_size cT_size 1 (.some .int) 0 := ⟨⟨wi_T_size, we_T_size⟩, wn_T, wc_T_size, by decide +kernel⟩
theorem kk_T_coefficient : zkV yT_coefficient cT_coefficient 14 (.some .long) 3 := ⟨⟨wi_T_coefficient, we_T_coefficient⟩, wn_T, wc_T_coefficient, by decide +kernel⟩
theorem kk_T_power : zkS yT_power cT_power 9 (.some .long) 2 := ⟨ws_T_power, wn_T, wc_T_power, by decide +kernel⟩
theorem kk_T_inverse : zkS yT_inverse cT_inverse 2 (.some .long) 1 := ⟨ws_T_inverse, wn_T, wc_T_inverse, by decide +kernel⟩
theorem kk_T_setup : zkV yT_setup cT_setup 14 (.some .int) 5 := ⟨⟨wi_T_setup, we_T_setup⟩, wn_T, wc_T_setup, by decide +kernel⟩
theorem kk_T_less : zkS yT_less cT_less 4 (.some .long) 2 := ⟨ws_T_less, wn_T, wc_T_less, by decide +kernel⟩
theorem kk_T_atTau : zkV yT_atTau cT_atTau 6 (.some .long) 2 := ⟨⟨wi_T_atTau, we_T_atTau⟩, wn_T, wc_T_atTau, by decide +kernel⟩
theorem kk_T_prove : zkV yT_prove cT_prove 12 (.some .boolean) 2 := ⟨⟨wi_T_prove, we_T_prove⟩, wn_T, wc_T_prove, by decide +kernel⟩
theorem kk_T_sum : zkV yT_sum cT_sum 6 none 1 := ⟨⟨wi_T_sum, we_T_sum⟩, wn_T, wc_T_sum, by decide +kernel⟩
theorem kk_T_divide : zkV yT_divide cT_divide 5 none 0 := ⟨⟨wi_T_divide, we_T_divide⟩, wn_T, wc_T_divide, by decide +kernel⟩
theorem kk_T_sumAtTau : zkV yT_sumAtTau cT_sumAtTau 5 (.some .long) 1 := ⟨⟨wi_T_sumAtTau, we_T_sumAtTau⟩, wn_T, wc_T_sumAtTau, by decide +kernel⟩
theorem kk_T_alter : zkV yT_alter cT_alter 3 (.some .boolean) 2 := ⟨⟨wi_T_alter, we_T_alter⟩, wn_T, wc_T_alter, by decide +kernel⟩
theorem kk_T_input : zkV yT_input cT_input 3 (.some .boolean) 2 := ⟨⟨wi_T_input, we_T_input⟩, wn_T, wc_T_input, by decide +kernel⟩
theorem kk_T_verify : zkV yT_verify cT_verify 4 (.some .boolean) 0 := ⟨⟨wi_T_verify, we_T_verify⟩, wn_T, wc_T_verify, by decide +kernel⟩
theorem kk_T_proof : zkV yT_proof cT_proof 2 (.some .int) 1 := ⟨⟨wi_T_proof, we_T_proof⟩, wn_T, wc_T_proof, by decide +kernel⟩
theorem kk_T_quotient : zkV yT_quotient cT_quotient 2 (.some .int) 1 := ⟨⟨wi_T_quotient, we_T_quotient⟩, wn_T, wc_T_quotient, by decide +kernel⟩
theorem kk_T_key : zkV yT_key cT_key 3 (.some .int) 2 := ⟨⟨wi_T_key, we_T_key⟩, wn_T, wc_T_key, by decide +kernel⟩
theorem kk_T_about : zkV yT_about cT_about 2 (.some .int) 1 := ⟨⟨wi_T_about, we_T_about⟩, wn_T, wc_T_about, by decide +kernel⟩
