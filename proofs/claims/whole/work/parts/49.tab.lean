theorem sw_0 : swm 0 = 21 := by decide +kernel
theorem gp_0 : wV_group.getD 0 0 = 0 := by decide +kernel
theorem tk_0 : wV_takes.getD 0 0 = 0 := by decide +kernel
theorem wi_0 : wV_wantsInStore.getD 0 0 = 0 := by decide +kernel
theorem ap_0 : wV_appends.getD 0 0 = 0 := by decide +kernel
theorem fc_0 : wV_forCompilingOnly.getD 0 0 = 0 := by decide +kernel
theorem im_0 : wV_immediate.getD 0 0 = 0 := by decide +kernel
theorem od_0 : wV_ordinal.getD 0 0 = nI 0 := by decide +kernel
theorem sw_1 : swm 1 = 24 := by decide +kernel
theorem gp_1 : wV_group.getD 1 0 = 0 := by decide +kernel
theorem tk_1 : wV_takes.getD 1 0 = 0 := by decide +kernel
theorem wi_1 : wV_wantsInStore.getD 1 0 = 0 := by decide +kernel
theorem ap_1 : wV_appends.getD 1 0 = 0 := by decide +kernel
theorem fc_1 : wV_forCompilingOnly.getD 1 0 = 0 := by decide +kernel
theorem im_1 : wV_immediate.getD 1 0 = 0 := by decide +kernel
theorem od_1 : wV_ordinal.getD 1 0 = nI 1 := by decide +kernel
theorem sw_2 : swm 2 = 25 := by decide +kernel
theorem gp_2 : wV_group.getD 2 0 = 0 := by decide +kernel
theorem tk_2 : wV_takes.getD 2 0 = 0 := by decide +kernel
theorem wi_2 : wV_wantsInStore.getD 2 0 = 0 := by decide +kernel
theorem ap_2 : wV_appends.getD 2 0 = 0 := by decide +kernel
theorem fc_2 : wV_forCompilingOnly.getD 2 0 = 0 := by decide +kernel
theorem im_2 : wV_immediate.getD 2 0 = 0 := by decide +kernel
theorem od_2 : wV_ordinal.getD 2 0 = nI 2 := by decide +kernel
theorem sw_3 : swm 3 = 26 := by decide +kernel
theorem gp_3 : wV_group.getD 3 0 = 0 := by decide +kernel
theorem tk_3 : wV_takes.getD 3 0 = 1 := by decide +kernel
theorem wi_3 : wV_wantsInStore.getD 3 0 = 0 := by decide +kernel
theorem ap_3 : wV_appends.getD 3 0 = 0 := by decide +kernel
theorem fc_3 : wV_forCompilingOnly.getD 3 0 = 0 := by decide +kernel
theorem im_3 : wV_immediate.getD 3 0 = 0 := by decide +kernel
theorem od_3 : wV_ordinal.getD 3 0 = nI 3 := by decide +kernel
theorem sw_4 : swm 4 = 22 := by decide +kernel
theorem gp_4 : wV_group.getD 4 0 = 0 := by decide +kernel
theorem tk_4 : wV_takes.getD 4 0 = 2 := by decide +kernel
theorem wi_4 : wV_wantsInStore.getD 4 0 = 0 := by decide +kernel
theorem ap_4 : wV_appends.getD 4 0 = 0 := by decide +kernel
theorem fc_4 : wV_forCompilingOnly.getD 4 0 = 0 := by decide +kernel
theorem im_4 : wV_immediate.getD 4 0 = 0 := by decide +kernel
theorem od_4 : wV_ordinal.getD 4 0 = nI 4 := by decide +kernel
theorem sw_5 : swm 5 = 27 := by decide +kernel
theorem gp_5 : wV_group.getD 5 0 = 0 := by decide +kernel
theorem tk_5 : wV_takes.getD 5 0 = 0 := by decide +kernel
theorem wi_5 : wV_wantsInStore.getD 5 0 = 2 := by decide +kernel
theorem ap_5 : wV_appends.getD 5 0 = 0 := by decide +kernel
theorem fc_5 : wV_forCompilingOnly.getD 5 0 = 0 := by decide +kernel
theorem im_5 : wV_immediate.getD 5 0 = 0 := by decide +kernel
theorem od_5 : wV_ordinal.getD 5 0 = nI 5 := by decide +kernel
theorem sw_6 : swm 6 = 0 := by decide +kernel
theorem gp_6 : wV_group.getD 6 0 = 0 := by decide +kernel
theorem tk_6 : wV_takes.getD 6 0 = 1 := by decide +kernel
theorem wi_6 : wV_wantsInStore.getD 6 0 = 2 := by decide +kernel
theorem ap_6 : wV_appends.getD 6 0 = 0 := by decide +kernel
theorem fc_6 : wV_forCompilingOnly.getD 6 0 = 0 := by decide +kernel
theorem im_6 : wV_immediate.getD 6 0 = 0 := by decide +kernel
theorem od_6 : wV_ordinal.getD 6 0 = nI 6 := by decide +kernel
theorem sw_7 : swm 7 = 23 := by decide +kernel
theorem gp_7 : wV_group.getD 7 0 = 0 := by decide +kernel
theorem tk_7 : wV_takes.getD 7 0 = 0 := by decide +kernel
theorem wi_7 : wV_wantsInStore.getD 7 0 = 0 := by decide +kernel
theorem ap_7 : wV_appends.getD 7 0 = 0 := by decide +kernel
theorem fc_7 : wV_forCompilingOnly.getD 7 0 = 0 := by decide +kernel
theorem im_7 : wV_immediate.getD 7 0 = 0 := by decide +kernel
theorem od_7 : wV_ordinal.getD 7 0 = nI 7 := by decide +kernel
theorem sw_8 : swm 8 = 28 := by decide +kernel
theorem gp_8 : wV_group.getD 8 0 = 1 := by decide +kernel
theorem tk_8 : wV_takes.getD 8 0 = 1 := by decide +kernel
theorem wi_8 : wV_wantsInStore.getD 8 0 = 0 := by decide +kernel
theorem ap_8 : wV_appends.getD 8 0 = 0 := by decide +kernel
theorem fc_8 : wV_forCompilingOnly.getD 8 0 = 0 := by decide +kernel
theorem im_8 : wV_immediate.getD 8 0 = 0 := by decide +kernel
theorem od_8 : wV_ordinal.getD 8 0 = nI 8 := by decide +kernel
theorem sw_9 : swm 9 = 29 := by decide +kernel
theorem gp_9 : wV_group.getD 9 0 = 1 := by decide +kernel
theorem tk_9 : wV_takes.getD 9 0 = 1 := by decide +kernel
theorem wi_9 : wV_wantsInStore.getD 9 0 = 0 := by decide +kernel
theorem ap_9 : wV_appends.getD 9 0 = 0 := by decide +kernel
theorem fc_9 : wV_forCompilingOnly.getD 9 0 = 0 := by decide +kernel
theorem im_9 : wV_immediate.getD 9 0 = 0 := by decide +kernel
theorem od_9 : wV_ordinal.getD 9 0 = nI 9 := by decide +kernel
theorem sw_10 : swm 10 = 30 := by decide +kernel
theorem gp_10 : wV_group.getD 10 0 = 1 := by decide +kernel
theorem tk_10 : wV_takes.getD 10 0 = 2 := by decide +kernel
theorem wi_10 : wV_wantsInStore.getD 10 0 = 0 := by decide +kernel
theorem ap_10 : wV_appends.getD 10 0 = 0 := by decide +kernel
theorem fc_10 : wV_forCompilingOnly.getD 10 0 = 0 := by decide +kernel
theorem im_10 : wV_immediate.getD 10 0 = 0 := by decide +kernel
theorem od_10 : wV_ordinal.getD 10 0 = nI 10 := by decide +kernel
theorem sw_11 : swm 11 = 31 := by decide +kernel
theorem gp_11 : wV_group.getD 11 0 = 1 := by decide +kernel
theorem tk_11 : wV_takes.getD 11 0 = 2 := by decide +kernel
theorem wi_11 : wV_wantsInStore.getD 11 0 = 0 := by decide +kernel
theorem ap_11 : wV_appends.getD 11 0 = 0 := by decide +kernel
theorem fc_11 : wV_forCompilingOnly.getD 11 0 = 0 := by decide +kernel
theorem im_11 : wV_immediate.getD 11 0 = 0 := by decide +kernel
theorem od_11 : wV_ordinal.getD 11 0 = nI 11 := by decide +kernel
theorem sw_12 : swm 12 = 32 := by decide +kernel
theorem gp_12 : wV_group.getD 12 0 = 1 := by decide +kernel
theorem tk_12 : wV_takes.getD 12 0 = 3 := by decide +kernel
theorem wi_12 : wV_wantsInStore.getD 12 0 = 0 := by decide +kernel
theorem ap_12 : wV_appends.getD 12 0 = 0 := by decide +kernel
theorem fc_12 : wV_forCompilingOnly.getD 12 0 = 0 := by decide +kernel
theorem im_12 : wV_immediate.getD 12 0 = 0 := by decide +kernel
theorem od_12 : wV_ordinal.getD 12 0 = nI 12 := by decide +kernel
theorem sw_13 : swm 13 = 33 := by decide +kernel
theorem gp_13 : wV_group.getD 13 0 = 1 := by decide +kernel
theorem tk_13 : wV_takes.getD 13 0 = 2 := by decide +kernel
theorem wi_13 : wV_wantsInStore.getD 13 0 = 0 := by decide +kernel
theorem ap_13 : wV_appends.getD 13 0 = 0 := by decide +kernel
theorem fc_13 : wV_forCompilingOnly.getD 13 0 = 0 := by decide +kernel
theorem im_13 : wV_immediate.getD 13 0 = 0 := by decide +kernel
theorem od_13 : wV_ordinal.getD 13 0 = nI 13 := by decide +kernel
theorem sw_14 : swm 14 = 34 := by decide +kernel
theorem gp_14 : wV_group.getD 14 0 = 1 := by decide +kernel
theorem tk_14 : wV_takes.getD 14 0 = 1 := by decide +kernel
theorem wi_14 : wV_wantsInStore.getD 14 0 = 0 := by decide +kernel
theorem ap_14 : wV_appends.getD 14 0 = 0 := by decide +kernel
theorem fc_14 : wV_forCompilingOnly.getD 14 0 = 0 := by decide +kernel
theorem im_14 : wV_immediate.getD 14 0 = 0 := by decide +kernel
theorem od_14 : wV_ordinal.getD 14 0 = nI 14 := by decide +kernel
theorem sw_15 : swm 15 = 35 := by decide +kernel
theorem gp_15 : wV_group.getD 15 0 = 1 := by decide +kernel
theorem tk_15 : wV_takes.getD 15 0 = 0 := by decide +kernel
theorem wi_15 : wV_wantsInStore.getD 15 0 = 0 := by decide +kernel
theorem ap_15 : wV_appends.getD 15 0 = 0 := by decide +kernel
theorem fc_15 : wV_forCompilingOnly.getD 15 0 = 0 := by decide +kernel
theorem im_15 : wV_immediate.getD 15 0 = 0 := by decide +kernel
theorem od_15 : wV_ordinal.getD 15 0 = nI 15 := by decide +kernel
theorem sw_16 : swm 16 = 36 := by decide +kernel
theorem gp_16 : wV_group.getD 16 0 = 1 := by decide +kernel
theorem tk_16 : wV_takes.getD 16 0 = 1 := by decide +kernel
theorem wi_16 : wV_wantsInStore.getD 16 0 = 0 := by decide +kernel
theorem ap_16 : wV_appends.getD 16 0 = 0 := by decide +kernel
theorem fc_16 : wV_forCompilingOnly.getD 16 0 = 0 := by decide +kernel
theorem im_16 : wV_immediate.getD 16 0 = 0 := by decide +kernel
theorem od_16 : wV_ordinal.getD 16 0 = nI 16 := by decide +kernel
theorem sw_17 : swm 17 = 37 := by decide +kernel
theorem gp_17 : wV_group.getD 17 0 = 1 := by decide +kernel
theorem tk_17 : wV_takes.getD 17 0 = 1 := by decide +kernel
theorem wi_17 : wV_wantsInStore.getD 17 0 = 0 := by decide +kernel
theorem ap_17 : wV_appends.getD 17 0 = 0 := by decide +kernel
theorem fc_17 : wV_forCompilingOnly.getD 17 0 = 0 := by decide +kernel
theorem im_17 : wV_immediate.getD 17 0 = 0 := by decide +kernel
theorem od_17 : wV_ordinal.getD 17 0 = nI 17 := by decide +kernel
theorem sw_18 : swm 18 = 38 := by decide +kernel
theorem gp_18 : wV_group.getD 18 0 = 1 := by decide +kernel
theorem tk_18 : wV_takes.getD 18 0 = 0 := by decide +kernel
theorem wi_18 : wV_wantsInStore.getD 18 0 = 1 := by decide +kernel
theorem ap_18 : wV_appends.getD 18 0 = 0 := by decide +kernel
theorem fc_18 : wV_forCompilingOnly.getD 18 0 = 0 := by decide +kernel
theorem im_18 : wV_immediate.getD 18 0 = 0 := by decide +kernel
theorem od_18 : wV_ordinal.getD 18 0 = nI 18 := by decide +kernel
theorem sw_19 : swm 19 = 0 := by decide +kernel
theorem gp_19 : wV_group.getD 19 0 = 1 := by decide +kernel
theorem tk_19 : wV_takes.getD 19 0 = 0 := by decide +kernel
theorem wi_19 : wV_wantsInStore.getD 19 0 = 1 := by decide +kernel
theorem ap_19 : wV_appends.getD 19 0 = 0 := by decide +kernel
theorem fc_19 : wV_forCompilingOnly.getD 19 0 = 0 := by decide +kernel
theorem im_19 : wV_immediate.getD 19 0 = 0 := by decide +kernel
theorem od_19 : wV_ordinal.getD 19 0 = nI 19 := by decide +kernel
theorem sw_20 : swm 20 = 0 := by decide +kernel
theorem gp_20 : wV_group.getD 20 0 = 1 := by decide +kernel
theorem tk_20 : wV_takes.getD 20 0 = 0 := by decide +kernel
theorem wi_20 : wV_wantsInStore.getD 20 0 = 1 := by decide +kernel
theorem ap_20 : wV_appends.getD 20 0 = 0 := by decide +kernel
theorem fc_20 : wV_forCompilingOnly.getD 20 0 = 0 := by decide +kernel
theorem im_20 : wV_immediate.getD 20 0 = 0 := by decide +kernel
theorem od_20 : wV_ordinal.getD 20 0 = nI 20 := by decide +kernel
theorem sw_21 : swm 21 = 39 := by decide +kernel
theorem gp_21 : wV_group.getD 21 0 = 1 := by decide +kernel
theorem tk_21 : wV_takes.getD 21 0 = 0 := by decide +kernel
theorem wi_21 : wV_wantsInStore.getD 21 0 = 3 := by decide +kernel
theorem ap_21 : wV_appends.getD 21 0 = 0 := by decide +kernel
theorem fc_21 : wV_forCompilingOnly.getD 21 0 = 0 := by decide +kernel
theorem im_21 : wV_immediate.getD 21 0 = 0 := by decide +kernel
theorem od_21 : wV_ordinal.getD 21 0 = nI 21 := by decide +kernel
theorem sw_22 : swm 22 = 40 := by decide +kernel
theorem gp_22 : wV_group.getD 22 0 = 1 := by decide +kernel
theorem tk_22 : wV_takes.getD 22 0 = 0 := by decide +kernel
theorem wi_22 : wV_wantsInStore.getD 22 0 = 2 := by decide +kernel
theorem ap_22 : wV_appends.getD 22 0 = 0 := by decide +kernel
theorem fc_22 : wV_forCompilingOnly.getD 22 0 = 0 := by decide +kernel
theorem im_22 : wV_immediate.getD 22 0 = 0 := by decide +kernel
theorem od_22 : wV_ordinal.getD 22 0 = nI 22 := by decide +kernel
theorem sw_23 : swm 23 = 48 := by decide +kernel
theorem gp_23 : wV_group.getD 23 0 = 3 := by decide +kernel
theorem tk_23 : wV_takes.getD 23 0 = 2 := by decide +kernel
theorem wi_23 : wV_wantsInStore.getD 23 0 = 0 := by decide +kernel
theorem ap_23 : wV_appends.getD 23 0 = 0 := by decide +kernel
theorem fc_23 : wV_forCompilingOnly.getD 23 0 = 0 := by decide +kernel
theorem im_23 : wV_immediate.getD 23 0 = 0 := by decide +kernel
theorem od_23 : wV_ordinal.getD 23 0 = nI 23 := by decide +kernel
theorem sw_24 : swm 24 = 49 := by decide +kernel
theorem gp_24 : wV_group.getD 24 0 = 3 := by decide +kernel
theorem tk_24 : wV_takes.getD 24 0 = 2 := by decide +kernel
theorem wi_24 : wV_wantsInStore.getD 24 0 = 0 := by decide +kernel
theorem ap_24 : wV_appends.getD 24 0 = 0 := by decide +kernel
theorem fc_24 : wV_forCompilingOnly.getD 24 0 = 0 := by decide +kernel
theorem im_24 : wV_immediate.getD 24 0 = 0 := by decide +kernel
theorem od_24 : wV_ordinal.getD 24 0 = nI 24 := by decide +kernel
theorem sw_25 : swm 25 = 50 := by decide +kernel
theorem gp_25 : wV_group.getD 25 0 = 3 := by decide +kernel
theorem tk_25 : wV_takes.getD 25 0 = 2 := by decide +kernel
theorem wi_25 : wV_wantsInStore.getD 25 0 = 0 := by decide +kernel
theorem ap_25 : wV_appends.getD 25 0 = 0 := by decide +kernel
theorem fc_25 : wV_forCompilingOnly.getD 25 0 = 0 := by decide +kernel
theorem im_25 : wV_immediate.getD 25 0 = 0 := by decide +kernel
theorem od_25 : wV_ordinal.getD 25 0 = nI 25 := by decide +kernel
theorem sw_26 : swm 26 = 0 := by decide +kernel
theorem gp_26 : wV_group.getD 26 0 = 3 := by decide +kernel
theorem tk_26 : wV_takes.getD 26 0 = 2 := by decide +kernel
theorem wi_26 : wV_wantsInStore.getD 26 0 = 0 := by decide +kernel
theorem ap_26 : wV_appends.getD 26 0 = 0 := by decide +kernel
theorem fc_26 : wV_forCompilingOnly.getD 26 0 = 0 := by decide +kernel
theorem im_26 : wV_immediate.getD 26 0 = 0 := by decide +kernel
theorem od_26 : wV_ordinal.getD 26 0 = nI 26 := by decide +kernel
theorem sw_27 : swm 27 = 0 := by decide +kernel
theorem gp_27 : wV_group.getD 27 0 = 3 := by decide +kernel
theorem tk_27 : wV_takes.getD 27 0 = 2 := by decide +kernel
theorem wi_27 : wV_wantsInStore.getD 27 0 = 0 := by decide +kernel
theorem ap_27 : wV_appends.getD 27 0 = 0 := by decide +kernel
theorem fc_27 : wV_forCompilingOnly.getD 27 0 = 0 := by decide +kernel
theorem im_27 : wV_immediate.getD 27 0 = 0 := by decide +kernel
theorem od_27 : wV_ordinal.getD 27 0 = nI 27 := by decide +kernel
theorem sw_28 : swm 28 = 41 := by decide +kernel
theorem gp_28 : wV_group.getD 28 0 = 2 := by decide +kernel
theorem tk_28 : wV_takes.getD 28 0 = 1 := by decide +kernel
theorem wi_28 : wV_wantsInStore.getD 28 0 = 0 := by decide +kernel
theorem ap_28 : wV_appends.getD 28 0 = 0 := by decide +kernel
theorem fc_28 : wV_forCompilingOnly.getD 28 0 = 0 := by decide +kernel
theorem im_28 : wV_immediate.getD 28 0 = 0 := by decide +kernel
theorem od_28 : wV_ordinal.getD 28 0 = nI 28 := by decide +kernel
theorem sw_29 : swm 29 = 42 := by decide +kernel
theorem gp_29 : wV_group.getD 29 0 = 2 := by decide +kernel
theorem tk_29 : wV_takes.getD 29 0 = 1 := by decide +kernel
theorem wi_29 : wV_wantsInStore.getD 29 0 = 0 := by decide +kernel
theorem ap_29 : wV_appends.getD 29 0 = 0 := by decide +kernel
theorem fc_29 : wV_forCompilingOnly.getD 29 0 = 0 := by decide +kernel
theorem im_29 : wV_immediate.getD 29 0 = 0 := by decide +kernel
theorem od_29 : wV_ordinal.getD 29 0 = nI 29 := by decide +kernel
theorem sw_30 : swm 30 = 51 := by decide +kernel
theorem gp_30 : wV_group.getD 30 0 = 3 := by decide +kernel
theorem tk_30 : wV_takes.getD 30 0 = 2 := by decide +kernel
theorem wi_30 : wV_wantsInStore.getD 30 0 = 0 := by decide +kernel
theorem ap_30 : wV_appends.getD 30 0 = 0 := by decide +kernel
theorem fc_30 : wV_forCompilingOnly.getD 30 0 = 0 := by decide +kernel
theorem im_30 : wV_immediate.getD 30 0 = 0 := by decide +kernel
theorem od_30 : wV_ordinal.getD 30 0 = nI 30 := by decide +kernel
theorem sw_31 : swm 31 = 52 := by decide +kernel
theorem gp_31 : wV_group.getD 31 0 = 3 := by decide +kernel
theorem tk_31 : wV_takes.getD 31 0 = 2 := by decide +kernel
theorem wi_31 : wV_wantsInStore.getD 31 0 = 0 := by decide +kernel
theorem ap_31 : wV_appends.getD 31 0 = 0 := by decide +kernel
theorem fc_31 : wV_forCompilingOnly.getD 31 0 = 0 := by decide +kernel
theorem im_31 : wV_immediate.getD 31 0 = 0 := by decide +kernel
theorem od_31 : wV_ordinal.getD 31 0 = nI 31 := by decide +kernel
theorem sw_32 : swm 32 = 53 := by decide +kernel
theorem gp_32 : wV_group.getD 32 0 = 3 := by decide +kernel
theorem tk_32 : wV_takes.getD 32 0 = 2 := by decide +kernel
theorem wi_32 : wV_wantsInStore.getD 32 0 = 0 := by decide +kernel
theorem ap_32 : wV_appends.getD 32 0 = 0 := by decide +kernel
theorem fc_32 : wV_forCompilingOnly.getD 32 0 = 0 := by decide +kernel
theorem im_32 : wV_immediate.getD 32 0 = 0 := by decide +kernel
theorem od_32 : wV_ordinal.getD 32 0 = nI 32 := by decide +kernel
theorem sw_33 : swm 33 = 54 := by decide +kernel
theorem gp_33 : wV_group.getD 33 0 = 3 := by decide +kernel
theorem tk_33 : wV_takes.getD 33 0 = 2 := by decide +kernel
theorem wi_33 : wV_wantsInStore.getD 33 0 = 0 := by decide +kernel
theorem ap_33 : wV_appends.getD 33 0 = 0 := by decide +kernel
theorem fc_33 : wV_forCompilingOnly.getD 33 0 = 0 := by decide +kernel
theorem im_33 : wV_immediate.getD 33 0 = 0 := by decide +kernel
theorem od_33 : wV_ordinal.getD 33 0 = nI 33 := by decide +kernel
theorem sw_34 : swm 34 = 55 := by decide +kernel
theorem gp_34 : wV_group.getD 34 0 = 3 := by decide +kernel
theorem tk_34 : wV_takes.getD 34 0 = 2 := by decide +kernel
theorem wi_34 : wV_wantsInStore.getD 34 0 = 0 := by decide +kernel
theorem ap_34 : wV_appends.getD 34 0 = 0 := by decide +kernel
theorem fc_34 : wV_forCompilingOnly.getD 34 0 = 0 := by decide +kernel
theorem im_34 : wV_immediate.getD 34 0 = 0 := by decide +kernel
theorem od_34 : wV_ordinal.getD 34 0 = nI 34 := by decide +kernel
theorem sw_35 : swm 35 = 43 := by decide +kernel
theorem gp_35 : wV_group.getD 35 0 = 2 := by decide +kernel
theorem tk_35 : wV_takes.getD 35 0 = 1 := by decide +kernel
theorem wi_35 : wV_wantsInStore.getD 35 0 = 0 := by decide +kernel
theorem ap_35 : wV_appends.getD 35 0 = 0 := by decide +kernel
theorem fc_35 : wV_forCompilingOnly.getD 35 0 = 0 := by decide +kernel
theorem im_35 : wV_immediate.getD 35 0 = 0 := by decide +kernel
theorem od_35 : wV_ordinal.getD 35 0 = nI 35 := by decide +kernel
theorem sw_36 : swm 36 = 56 := by decide +kernel
theorem gp_36 : wV_group.getD 36 0 = 3 := by decide +kernel
theorem tk_36 : wV_takes.getD 36 0 = 2 := by decide +kernel
theorem wi_36 : wV_wantsInStore.getD 36 0 = 0 := by decide +kernel
theorem ap_36 : wV_appends.getD 36 0 = 0 := by decide +kernel
theorem fc_36 : wV_forCompilingOnly.getD 36 0 = 0 := by decide +kernel
theorem im_36 : wV_immediate.getD 36 0 = 0 := by decide +kernel
theorem od_36 : wV_ordinal.getD 36 0 = nI 36 := by decide +kernel
theorem sw_37 : swm 37 = 57 := by decide +kernel
theorem gp_37 : wV_group.getD 37 0 = 3 := by decide +kernel
theorem tk_37 : wV_takes.getD 37 0 = 2 := by decide +kernel
theorem wi_37 : wV_wantsInStore.getD 37 0 = 0 := by decide +kernel
theorem ap_37 : wV_appends.getD 37 0 = 0 := by decide +kernel
theorem fc_37 : wV_forCompilingOnly.getD 37 0 = 0 := by decide +kernel
theorem im_37 : wV_immediate.getD 37 0 = 0 := by decide +kernel
theorem od_37 : wV_ordinal.getD 37 0 = nI 37 := by decide +kernel
theorem sw_38 : swm 38 = 0 := by decide +kernel
theorem gp_38 : wV_group.getD 38 0 = 3 := by decide +kernel
theorem tk_38 : wV_takes.getD 38 0 = 2 := by decide +kernel
theorem wi_38 : wV_wantsInStore.getD 38 0 = 0 := by decide +kernel
theorem ap_38 : wV_appends.getD 38 0 = 0 := by decide +kernel
theorem fc_38 : wV_forCompilingOnly.getD 38 0 = 0 := by decide +kernel
theorem im_38 : wV_immediate.getD 38 0 = 0 := by decide +kernel
theorem od_38 : wV_ordinal.getD 38 0 = nI 38 := by decide +kernel
theorem sw_39 : swm 39 = 44 := by decide +kernel
theorem gp_39 : wV_group.getD 39 0 = 2 := by decide +kernel
theorem tk_39 : wV_takes.getD 39 0 = 1 := by decide +kernel
theorem wi_39 : wV_wantsInStore.getD 39 0 = 0 := by decide +kernel
theorem ap_39 : wV_appends.getD 39 0 = 0 := by decide +kernel
theorem fc_39 : wV_forCompilingOnly.getD 39 0 = 0 := by decide +kernel
theorem im_39 : wV_immediate.getD 39 0 = 0 := by decide +kernel
theorem od_39 : wV_ordinal.getD 39 0 = nI 39 := by decide +kernel
theorem sw_40 : swm 40 = 45 := by decide +kernel
theorem gp_40 : wV_group.getD 40 0 = 2 := by decide +kernel
theorem tk_40 : wV_takes.getD 40 0 = 1 := by decide +kernel
theorem wi_40 : wV_wantsInStore.getD 40 0 = 0 := by decide +kernel
theorem ap_40 : wV_appends.getD 40 0 = 0 := by decide +kernel
theorem fc_40 : wV_forCompilingOnly.getD 40 0 = 0 := by decide +kernel
theorem im_40 : wV_immediate.getD 40 0 = 0 := by decide +kernel
theorem od_40 : wV_ordinal.getD 40 0 = nI 40 := by decide +kernel
theorem sw_41 : swm 41 = 46 := by decide +kernel
theorem gp_41 : wV_group.getD 41 0 = 2 := by decide +kernel
theorem tk_41 : wV_takes.getD 41 0 = 1 := by decide +kernel
theorem wi_41 : wV_wantsInStore.getD 41 0 = 0 := by decide +kernel
theorem ap_41 : wV_appends.getD 41 0 = 0 := by decide +kernel
theorem fc_41 : wV_forCompilingOnly.getD 41 0 = 0 := by decide +kernel
theorem im_41 : wV_immediate.getD 41 0 = 0 := by decide +kernel
theorem od_41 : wV_ordinal.getD 41 0 = nI 41 := by decide +kernel
theorem sw_42 : swm 42 = 47 := by decide +kernel
theorem gp_42 : wV_group.getD 42 0 = 2 := by decide +kernel
theorem tk_42 : wV_takes.getD 42 0 = 1 := by decide +kernel
theorem wi_42 : wV_wantsInStore.getD 42 0 = 0 := by decide +kernel
theorem ap_42 : wV_appends.getD 42 0 = 0 := by decide +kernel
theorem fc_42 : wV_forCompilingOnly.getD 42 0 = 0 := by decide +kernel
theorem im_42 : wV_immediate.getD 42 0 = 0 := by decide +kernel
theorem od_42 : wV_ordinal.getD 42 0 = nI 42 := by decide +kernel
theorem sw_43 : swm 43 = 0 := by decide +kernel
theorem gp_43 : wV_group.getD 43 0 = 2 := by decide +kernel
theorem tk_43 : wV_takes.getD 43 0 = 1 := by decide +kernel
theorem wi_43 : wV_wantsInStore.getD 43 0 = 0 := by decide +kernel
theorem ap_43 : wV_appends.getD 43 0 = 0 := by decide +kernel
theorem fc_43 : wV_forCompilingOnly.getD 43 0 = 0 := by decide +kernel
theorem im_43 : wV_immediate.getD 43 0 = 0 := by decide +kernel
theorem od_43 : wV_ordinal.getD 43 0 = nI 43 := by decide +kernel
theorem sw_44 : swm 44 = 0 := by decide +kernel
theorem gp_44 : wV_group.getD 44 0 = 4 := by decide +kernel
theorem tk_44 : wV_takes.getD 44 0 = 1 := by decide +kernel
theorem wi_44 : wV_wantsInStore.getD 44 0 = 0 := by decide +kernel
theorem ap_44 : wV_appends.getD 44 0 = 0 := by decide +kernel
theorem fc_44 : wV_forCompilingOnly.getD 44 0 = 0 := by decide +kernel
theorem im_44 : wV_immediate.getD 44 0 = 0 := by decide +kernel
theorem od_44 : wV_ordinal.getD 44 0 = nI 44 := by decide +kernel
theorem sw_45 : swm 45 = 0 := by decide +kernel
theorem gp_45 : wV_group.getD 45 0 = 4 := by decide +kernel
theorem tk_45 : wV_takes.getD 45 0 = 2 := by decide +kernel
theorem wi_45 : wV_wantsInStore.getD 45 0 = 0 := by decide +kernel
theorem ap_45 : wV_appends.getD 45 0 = 0 := by decide +kernel
theorem fc_45 : wV_forCompilingOnly.getD 45 0 = 0 := by decide +kernel
theorem im_45 : wV_immediate.getD 45 0 = 0 := by decide +kernel
theorem od_45 : wV_ordinal.getD 45 0 = nI 45 := by decide +kernel
theorem sw_46 : swm 46 = 0 := by decide +kernel
theorem gp_46 : wV_group.getD 46 0 = 4 := by decide +kernel
theorem tk_46 : wV_takes.getD 46 0 = 2 := by decide +kernel
theorem wi_46 : wV_wantsInStore.getD 46 0 = 0 := by decide +kernel
theorem ap_46 : wV_appends.getD 46 0 = 0 := by decide +kernel
theorem fc_46 : wV_forCompilingOnly.getD 46 0 = 0 := by decide +kernel
theorem im_46 : wV_immediate.getD 46 0 = 0 := by decide +kernel
theorem od_46 : wV_ordinal.getD 46 0 = nI 46 := by decide +kernel
theorem sw_47 : swm 47 = 59 := by decide +kernel
theorem gp_47 : wV_group.getD 47 0 = 4 := by decide +kernel
theorem tk_47 : wV_takes.getD 47 0 = 1 := by decide +kernel
theorem wi_47 : wV_wantsInStore.getD 47 0 = 0 := by decide +kernel
theorem ap_47 : wV_appends.getD 47 0 = 0 := by decide +kernel
theorem fc_47 : wV_forCompilingOnly.getD 47 0 = 0 := by decide +kernel
theorem im_47 : wV_immediate.getD 47 0 = 0 := by decide +kernel
theorem od_47 : wV_ordinal.getD 47 0 = nI 47 := by decide +kernel
theorem sw_48 : swm 48 = 58 := by decide +kernel
theorem gp_48 : wV_group.getD 48 0 = 4 := by decide +kernel
theorem tk_48 : wV_takes.getD 48 0 = 0 := by decide +kernel
theorem wi_48 : wV_wantsInStore.getD 48 0 = 0 := by decide +kernel
theorem ap_48 : wV_appends.getD 48 0 = 0 := by decide +kernel
theorem fc_48 : wV_forCompilingOnly.getD 48 0 = 0 := by decide +kernel
theorem im_48 : wV_immediate.getD 48 0 = 0 := by decide +kernel
theorem od_48 : wV_ordinal.getD 48 0 = nI 48 := by decide +kernel
theorem sw_49 : swm 49 = 60 := by decide +kernel
theorem gp_49 : wV_group.getD 49 0 = 4 := by decide +kernel
theorem tk_49 : wV_takes.getD 49 0 = 1 := by decide +kernel
theorem wi_49 : wV_wantsInStore.getD 49 0 = 0 := by decide +kernel
theorem ap_49 : wV_appends.getD 49 0 = 0 := by decide +kernel
theorem fc_49 : wV_forCompilingOnly.getD 49 0 = 0 := by decide +kernel
theorem im_49 : wV_immediate.getD 49 0 = 0 := by decide +kernel
theorem od_49 : wV_ordinal.getD 49 0 = nI 49 := by decide +kernel
theorem sw_50 : swm 50 = 61 := by decide +kernel
theorem gp_50 : wV_group.getD 50 0 = 5 := by decide +kernel
theorem tk_50 : wV_takes.getD 50 0 = 1 := by decide +kernel
theorem wi_50 : wV_wantsInStore.getD 50 0 = 0 := by decide +kernel
theorem ap_50 : wV_appends.getD 50 0 = 0 := by decide +kernel
theorem fc_50 : wV_forCompilingOnly.getD 50 0 = 0 := by decide +kernel
theorem im_50 : wV_immediate.getD 50 0 = 0 := by decide +kernel
theorem od_50 : wV_ordinal.getD 50 0 = nI 50 := by decide +kernel
theorem sw_51 : swm 51 = 62 := by decide +kernel
theorem gp_51 : wV_group.getD 51 0 = 5 := by decide +kernel
theorem tk_51 : wV_takes.getD 51 0 = 1 := by decide +kernel
theorem wi_51 : wV_wantsInStore.getD 51 0 = 0 := by decide +kernel
theorem ap_51 : wV_appends.getD 51 0 = 0 := by decide +kernel
theorem fc_51 : wV_forCompilingOnly.getD 51 0 = 0 := by decide +kernel
theorem im_51 : wV_immediate.getD 51 0 = 0 := by decide +kernel
theorem od_51 : wV_ordinal.getD 51 0 = nI 51 := by decide +kernel
theorem sw_52 : swm 52 = 0 := by decide +kernel
theorem gp_52 : wV_group.getD 52 0 = 5 := by decide +kernel
theorem tk_52 : wV_takes.getD 52 0 = 0 := by decide +kernel
theorem wi_52 : wV_wantsInStore.getD 52 0 = 0 := by decide +kernel
theorem ap_52 : wV_appends.getD 52 0 = 0 := by decide +kernel
theorem fc_52 : wV_forCompilingOnly.getD 52 0 = 0 := by decide +kernel
theorem im_52 : wV_immediate.getD 52 0 = 0 := by decide +kernel
theorem od_52 : wV_ordinal.getD 52 0 = nI 52 := by decide +kernel
theorem sw_53 : swm 53 = 1 := by decide +kernel
theorem gp_53 : wV_group.getD 53 0 = 7 := by decide +kernel
theorem tk_53 : wV_takes.getD 53 0 = 0 := by decide +kernel
theorem wi_53 : wV_wantsInStore.getD 53 0 = 0 := by decide +kernel
theorem ap_53 : wV_appends.getD 53 0 = 0 := by decide +kernel
theorem fc_53 : wV_forCompilingOnly.getD 53 0 = 0 := by decide +kernel
theorem im_53 : wV_immediate.getD 53 0 = 0 := by decide +kernel
theorem od_53 : wV_ordinal.getD 53 0 = nI 53 := by decide +kernel
theorem sw_54 : swm 54 = 8 := by decide +kernel
theorem gp_54 : wV_group.getD 54 0 = 11 := by decide +kernel
theorem tk_54 : wV_takes.getD 54 0 = 0 := by decide +kernel
theorem wi_54 : wV_wantsInStore.getD 54 0 = 0 := by decide +kernel
theorem ap_54 : wV_appends.getD 54 0 = 0 := by decide +kernel
theorem fc_54 : wV_forCompilingOnly.getD 54 0 = 1 := by decide +kernel
theorem im_54 : wV_immediate.getD 54 0 = 1 := by decide +kernel
theorem od_54 : wV_ordinal.getD 54 0 = nI 54 := by decide +kernel
theorem sw_55 : swm 55 = 2 := by decide +kernel
theorem gp_55 : wV_group.getD 55 0 = 7 := by decide +kernel
theorem tk_55 : wV_takes.getD 55 0 = 1 := by decide +kernel
theorem wi_55 : wV_wantsInStore.getD 55 0 = 0 := by decide +kernel
theorem ap_55 : wV_appends.getD 55 0 = 1 := by decide +kernel
theorem fc_55 : wV_forCompilingOnly.getD 55 0 = 0 := by decide +kernel
theorem im_55 : wV_immediate.getD 55 0 = 0 := by decide +kernel
theorem od_55 : wV_ordinal.getD 55 0 = nI 55 := by decide +kernel
theorem sw_56 : swm 56 = 3 := by decide +kernel
theorem gp_56 : wV_group.getD 56 0 = 7 := by decide +kernel
theorem tk_56 : wV_takes.getD 56 0 = 0 := by decide +kernel
theorem wi_56 : wV_wantsInStore.getD 56 0 = 0 := by decide +kernel
theorem ap_56 : wV_appends.getD 56 0 = 1 := by decide +kernel
theorem fc_56 : wV_forCompilingOnly.getD 56 0 = 0 := by decide +kernel
theorem im_56 : wV_immediate.getD 56 0 = 0 := by decide +kernel
theorem od_56 : wV_ordinal.getD 56 0 = nI 56 := by decide +kernel
theorem sw_57 : swm 57 = 0 := by decide +kernel
theorem gp_57 : wV_group.getD 57 0 = 7 := by decide +kernel
theorem tk_57 : wV_takes.getD 57 0 = 0 := by decide +kernel
theorem wi_57 : wV_wantsInStore.getD 57 0 = 0 := by decide +kernel
theorem ap_57 : wV_appends.getD 57 0 = 0 := by decide +kernel
theorem fc_57 : wV_forCompilingOnly.getD 57 0 = 0 := by decide +kernel
theorem im_57 : wV_immediate.getD 57 0 = 0 := by decide +kernel
theorem od_57 : wV_ordinal.getD 57 0 = nI 57 := by decide +kernel
theorem sw_58 : swm 58 = 9 := by decide +kernel
theorem gp_58 : wV_group.getD 58 0 = 11 := by decide +kernel
theorem tk_58 : wV_takes.getD 58 0 = 0 := by decide +kernel
theorem wi_58 : wV_wantsInStore.getD 58 0 = 0 := by decide +kernel
theorem ap_58 : wV_appends.getD 58 0 = 0 := by decide +kernel
theorem fc_58 : wV_forCompilingOnly.getD 58 0 = 1 := by decide +kernel
theorem im_58 : wV_immediate.getD 58 0 = 1 := by decide +kernel
theorem od_58 : wV_ordinal.getD 58 0 = nI 58 := by decide +kernel
theorem sw_59 : swm 59 = 4 := by decide +kernel
theorem gp_59 : wV_group.getD 59 0 = 8 := by decide +kernel
theorem tk_59 : wV_takes.getD 59 0 = 0 := by decide +kernel
theorem wi_59 : wV_wantsInStore.getD 59 0 = 0 := by decide +kernel
theorem ap_59 : wV_appends.getD 59 0 = 0 := by decide +kernel
theorem fc_59 : wV_forCompilingOnly.getD 59 0 = 0 := by decide +kernel
theorem im_59 : wV_immediate.getD 59 0 = 0 := by decide +kernel
theorem od_59 : wV_ordinal.getD 59 0 = nI 59 := by decide +kernel
theorem sw_60 : swm 60 = 6 := by decide +kernel
theorem gp_60 : wV_group.getD 60 0 = 9 := by decide +kernel
theorem tk_60 : wV_takes.getD 60 0 = 0 := by decide +kernel
theorem wi_60 : wV_wantsInStore.getD 60 0 = 0 := by decide +kernel
theorem ap_60 : wV_appends.getD 60 0 = 0 := by decide +kernel
theorem fc_60 : wV_forCompilingOnly.getD 60 0 = 0 := by decide +kernel
theorem im_60 : wV_immediate.getD 60 0 = 0 := by decide +kernel
theorem od_60 : wV_ordinal.getD 60 0 = nI 60 := by decide +kernel
theorem sw_61 : swm 61 = 7 := by decide +kernel
theorem gp_61 : wV_group.getD 61 0 = 12 := by decide +kernel
theorem tk_61 : wV_takes.getD 61 0 = 0 := by decide +kernel
theorem wi_61 : wV_wantsInStore.getD 61 0 = 0 := by decide +kernel
theorem ap_61 : wV_appends.getD 61 0 = 0 := by decide +kernel
theorem fc_61 : wV_forCompilingOnly.getD 61 0 = 1 := by decide +kernel
theorem im_61 : wV_immediate.getD 61 0 = 1 := by decide +kernel
theorem od_61 : wV_ordinal.getD 61 0 = nI 61 := by decide +kernel
theorem sw_62 : swm 62 = 0 := by decide +kernel
theorem gp_62 : wV_group.getD 62 0 = 6 := by decide +kernel
theorem tk_62 : wV_takes.getD 62 0 = 1 := by decide +kernel
theorem wi_62 : wV_wantsInStore.getD 62 0 = 0 := by decide +kernel
theorem ap_62 : wV_appends.getD 62 0 = 0 := by decide +kernel
theorem fc_62 : wV_forCompilingOnly.getD 62 0 = 0 := by decide +kernel
theorem im_62 : wV_immediate.getD 62 0 = 0 := by decide +kernel
theorem od_62 : wV_ordinal.getD 62 0 = nI 62 := by decide +kernel
theorem sw_63 : swm 63 = 5 := by decide +kernel
theorem gp_63 : wV_group.getD 63 0 = 8 := by decide +kernel
theorem tk_63 : wV_takes.getD 63 0 = 1 := by decide +kernel
theorem wi_63 : wV_wantsInStore.getD 63 0 = 0 := by decide +kernel
theorem ap_63 : wV_appends.getD 63 0 = 0 := by decide +kernel
theorem fc_63 : wV_forCompilingOnly.getD 63 0 = 0 := by decide +kernel
theorem im_63 : wV_immediate.getD 63 0 = 0 := by decide +kernel
theorem od_63 : wV_ordinal.getD 63 0 = nI 63 := by decide +kernel
theorem sw_64 : swm 64 = 10 := by decide +kernel
theorem gp_64 : wV_group.getD 64 0 = 11 := by decide +kernel
theorem tk_64 : wV_takes.getD 64 0 = 1 := by decide +kernel
theorem wi_64 : wV_wantsInStore.getD 64 0 = 0 := by decide +kernel
theorem ap_64 : wV_appends.getD 64 0 = 0 := by decide +kernel
theorem fc_64 : wV_forCompilingOnly.getD 64 0 = 1 := by decide +kernel
theorem im_64 : wV_immediate.getD 64 0 = 1 := by decide +kernel
theorem od_64 : wV_ordinal.getD 64 0 = nI 64 := by decide +kernel
theorem sw_65 : swm 65 = 0 := by decide +kernel
theorem gp_65 : wV_group.getD 65 0 = 12 := by decide +kernel
theorem tk_65 : wV_takes.getD 65 0 = 0 := by decide +kernel
theorem wi_65 : wV_wantsInStore.getD 65 0 = 0 := by decide +kernel
theorem ap_65 : wV_appends.getD 65 0 = 0 := by decide +kernel
theorem fc_65 : wV_forCompilingOnly.getD 65 0 = 1 := by decide +kernel
theorem im_65 : wV_immediate.getD 65 0 = 1 := by decide +kernel
theorem od_65 : wV_ordinal.getD 65 0 = nI 65 := by decide +kernel
theorem sw_66 : swm 66 = 0 := by decide +kernel
theorem gp_66 : wV_group.getD 66 0 = 10 := by decide +kernel
theorem tk_66 : wV_takes.getD 66 0 = 0 := by decide +kernel
theorem wi_66 : wV_wantsInStore.getD 66 0 = 0 := by decide +kernel
theorem ap_66 : wV_appends.getD 66 0 = 0 := by decide +kernel
theorem fc_66 : wV_forCompilingOnly.getD 66 0 = 0 := by decide +kernel
theorem im_66 : wV_immediate.getD 66 0 = 1 := by decide +kernel
theorem od_66 : wV_ordinal.getD 66 0 = nI 66 := by decide +kernel
theorem sw_67 : swm 67 = 0 := by decide +kernel
theorem gp_67 : wV_group.getD 67 0 = 8 := by decide +kernel
theorem tk_67 : wV_takes.getD 67 0 = 0 := by decide +kernel
theorem wi_67 : wV_wantsInStore.getD 67 0 = 0 := by decide +kernel
theorem ap_67 : wV_appends.getD 67 0 = 0 := by decide +kernel
theorem fc_67 : wV_forCompilingOnly.getD 67 0 = 0 := by decide +kernel
theorem im_67 : wV_immediate.getD 67 0 = 0 := by decide +kernel
theorem od_67 : wV_ordinal.getD 67 0 = nI 67 := by decide +kernel
theorem sw_68 : swm 68 = 0 := by decide +kernel
theorem gp_68 : wV_group.getD 68 0 = 11 := by decide +kernel
theorem tk_68 : wV_takes.getD 68 0 = 0 := by decide +kernel
theorem wi_68 : wV_wantsInStore.getD 68 0 = 0 := by decide +kernel
theorem ap_68 : wV_appends.getD 68 0 = 0 := by decide +kernel
theorem fc_68 : wV_forCompilingOnly.getD 68 0 = 1 := by decide +kernel
theorem im_68 : wV_immediate.getD 68 0 = 1 := by decide +kernel
theorem od_68 : wV_ordinal.getD 68 0 = nI 68 := by decide +kernel
theorem sw_69 : swm 69 = 18 := by decide +kernel
theorem gp_69 : wV_group.getD 69 0 = 13 := by decide +kernel
theorem tk_69 : wV_takes.getD 69 0 = 0 := by decide +kernel
theorem wi_69 : wV_wantsInStore.getD 69 0 = 0 := by decide +kernel
theorem ap_69 : wV_appends.getD 69 0 = 2 := by decide +kernel
theorem fc_69 : wV_forCompilingOnly.getD 69 0 = 1 := by decide +kernel
theorem im_69 : wV_immediate.getD 69 0 = 1 := by decide +kernel
theorem od_69 : wV_ordinal.getD 69 0 = nI 69 := by decide +kernel
theorem sw_70 : swm 70 = 11 := by decide +kernel
theorem gp_70 : wV_group.getD 70 0 = 13 := by decide +kernel
theorem tk_70 : wV_takes.getD 70 0 = 0 := by decide +kernel
theorem wi_70 : wV_wantsInStore.getD 70 0 = 0 := by decide +kernel
theorem ap_70 : wV_appends.getD 70 0 = 2 := by decide +kernel
theorem fc_70 : wV_forCompilingOnly.getD 70 0 = 1 := by decide +kernel
theorem im_70 : wV_immediate.getD 70 0 = 1 := by decide +kernel
theorem od_70 : wV_ordinal.getD 70 0 = nI 70 := by decide +kernel
theorem sw_71 : swm 71 = 12 := by decide +kernel
theorem gp_71 : wV_group.getD 71 0 = 13 := by decide +kernel
theorem tk_71 : wV_takes.getD 71 0 = 0 := by decide +kernel
theorem wi_71 : wV_wantsInStore.getD 71 0 = 0 := by decide +kernel
theorem ap_71 : wV_appends.getD 71 0 = 0 := by decide +kernel
theorem fc_71 : wV_forCompilingOnly.getD 71 0 = 1 := by decide +kernel
theorem im_71 : wV_immediate.getD 71 0 = 1 := by decide +kernel
theorem od_71 : wV_ordinal.getD 71 0 = nI 71 := by decide +kernel
theorem sw_72 : swm 72 = 19 := by decide +kernel
theorem gp_72 : wV_group.getD 72 0 = 13 := by decide +kernel
theorem tk_72 : wV_takes.getD 72 0 = 0 := by decide +kernel
theorem wi_72 : wV_wantsInStore.getD 72 0 = 0 := by decide +kernel
theorem ap_72 : wV_appends.getD 72 0 = 0 := by decide +kernel
theorem fc_72 : wV_forCompilingOnly.getD 72 0 = 1 := by decide +kernel
theorem im_72 : wV_immediate.getD 72 0 = 1 := by decide +kernel
theorem od_72 : wV_ordinal.getD 72 0 = nI 72 := by decide +kernel
theorem sw_73 : swm 73 = 13 := by decide +kernel
theorem gp_73 : wV_group.getD 73 0 = 13 := by decide +kernel
theorem tk_73 : wV_takes.getD 73 0 = 0 := by decide +kernel
theorem wi_73 : wV_wantsInStore.getD 73 0 = 0 := by decide +kernel
theorem ap_73 : wV_appends.getD 73 0 = 2 := by decide +kernel
theorem fc_73 : wV_forCompilingOnly.getD 73 0 = 1 := by decide +kernel
theorem im_73 : wV_immediate.getD 73 0 = 1 := by decide +kernel
theorem od_73 : wV_ordinal.getD 73 0 = nI 73 := by decide +kernel
theorem sw_74 : swm 74 = 14 := by decide +kernel
theorem gp_74 : wV_group.getD 74 0 = 13 := by decide +kernel
theorem tk_74 : wV_takes.getD 74 0 = 0 := by decide +kernel
theorem wi_74 : wV_wantsInStore.getD 74 0 = 0 := by decide +kernel
theorem ap_74 : wV_appends.getD 74 0 = 2 := by decide +kernel
theorem fc_74 : wV_forCompilingOnly.getD 74 0 = 1 := by decide +kernel
theorem im_74 : wV_immediate.getD 74 0 = 1 := by decide +kernel
theorem od_74 : wV_ordinal.getD 74 0 = nI 74 := by decide +kernel
theorem sw_75 : swm 75 = 15 := by decide +kernel
theorem gp_75 : wV_group.getD 75 0 = 13 := by decide +kernel
theorem tk_75 : wV_takes.getD 75 0 = 0 := by decide +kernel
theorem wi_75 : wV_wantsInStore.getD 75 0 = 0 := by decide +kernel
theorem ap_75 : wV_appends.getD 75 0 = 2 := by decide +kernel
theorem fc_75 : wV_forCompilingOnly.getD 75 0 = 1 := by decide +kernel
theorem im_75 : wV_immediate.getD 75 0 = 1 := by decide +kernel
theorem od_75 : wV_ordinal.getD 75 0 = nI 75 := by decide +kernel
theorem sw_76 : swm 76 = 20 := by decide +kernel
theorem gp_76 : wV_group.getD 76 0 = 13 := by decide +kernel
theorem tk_76 : wV_takes.getD 76 0 = 0 := by decide +kernel
theorem wi_76 : wV_wantsInStore.getD 76 0 = 0 := by decide +kernel
theorem ap_76 : wV_appends.getD 76 0 = 1 := by decide +kernel
theorem fc_76 : wV_forCompilingOnly.getD 76 0 = 1 := by decide +kernel
theorem im_76 : wV_immediate.getD 76 0 = 1 := by decide +kernel
theorem od_76 : wV_ordinal.getD 76 0 = nI 76 := by decide +kernel
theorem sw_77 : swm 77 = 16 := by decide +kernel
theorem gp_77 : wV_group.getD 77 0 = 13 := by decide +kernel
theorem tk_77 : wV_takes.getD 77 0 = 0 := by decide +kernel
theorem wi_77 : wV_wantsInStore.getD 77 0 = 0 := by decide +kernel
theorem ap_77 : wV_appends.getD 77 0 = 2 := by decide +kernel
theorem fc_77 : wV_forCompilingOnly.getD 77 0 = 1 := by decide +kernel
theorem im_77 : wV_immediate.getD 77 0 = 1 := by decide +kernel
theorem od_77 : wV_ordinal.getD 77 0 = nI 77 := by decide +kernel
theorem sw_78 : swm 78 = 17 := by decide +kernel
theorem gp_78 : wV_group.getD 78 0 = 13 := by decide +kernel
theorem tk_78 : wV_takes.getD 78 0 = 0 := by decide +kernel
theorem wi_78 : wV_wantsInStore.getD 78 0 = 0 := by decide +kernel
theorem ap_78 : wV_appends.getD 78 0 = 2 := by decide +kernel
theorem fc_78 : wV_forCompilingOnly.getD 78 0 = 1 := by decide +kernel
theorem im_78 : wV_immediate.getD 78 0 = 1 := by decide +kernel
theorem od_78 : wV_ordinal.getD 78 0 = nI 78 := by decide +kernel
theorem sw_79 : swm 79 = 0 := by decide +kernel
theorem gp_79 : wV_group.getD 79 0 = 6 := by decide +kernel
theorem tk_79 : wV_takes.getD 79 0 = 1 := by decide +kernel
theorem wi_79 : wV_wantsInStore.getD 79 0 = 0 := by decide +kernel
theorem ap_79 : wV_appends.getD 79 0 = 0 := by decide +kernel
theorem fc_79 : wV_forCompilingOnly.getD 79 0 = 0 := by decide +kernel
theorem im_79 : wV_immediate.getD 79 0 = 0 := by decide +kernel
theorem od_79 : wV_ordinal.getD 79 0 = nI 79 := by decide +kernel
theorem sw_80 : swm 80 = 0 := by decide +kernel
theorem gp_80 : wV_group.getD 80 0 = 6 := by decide +kernel
theorem tk_80 : wV_takes.getD 80 0 = 1 := by decide +kernel
theorem wi_80 : wV_wantsInStore.getD 80 0 = 0 := by decide +kernel
theorem ap_80 : wV_appends.getD 80 0 = 0 := by decide +kernel
theorem fc_80 : wV_forCompilingOnly.getD 80 0 = 0 := by decide +kernel
theorem im_80 : wV_immediate.getD 80 0 = 0 := by decide +kernel
theorem od_80 : wV_ordinal.getD 80 0 = nI 80 := by decide +kernel
theorem sw_81 : swm 81 = 0 := by decide +kernel
theorem gp_81 : wV_group.getD 81 0 = 10 := by decide +kernel
theorem tk_81 : wV_takes.getD 81 0 = 0 := by decide +kernel
theorem wi_81 : wV_wantsInStore.getD 81 0 = 0 := by decide +kernel
theorem ap_81 : wV_appends.getD 81 0 = 0 := by decide +kernel
theorem fc_81 : wV_forCompilingOnly.getD 81 0 = 0 := by decide +kernel
theorem im_81 : wV_immediate.getD 81 0 = 1 := by decide +kernel
theorem od_81 : wV_ordinal.getD 81 0 = nI 81 := by decide +kernel
