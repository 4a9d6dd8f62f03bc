/-! the words of the tables, by their places; methods by name -/
abbrev b_FL_init : ByteArray := prog_1_method_1_code
def y_FL_init : MethodName := ⟨"FarLink", "<init>", "(I)V"⟩
abbrev b_FL_write : ByteArray := prog_1_method_2_code
def y_FL_write : MethodName := ⟨"FarLink", "write", "(III)Z"⟩
abbrev b_FL_put : ByteArray := prog_1_method_3_code
def y_FL_put : MethodName := ⟨"FarLink", "put", "(IIIZ)I"⟩
abbrev b_FL_cancel : ByteArray := prog_1_method_4_code
def y_FL_cancel : MethodName := ⟨"FarLink", "cancel", "(I)Z"⟩
abbrev b_FL_suspend : ByteArray := prog_1_method_5_code
def y_FL_suspend : MethodName := ⟨"FarLink", "suspend", "(IZ)Z"⟩
abbrev b_FL_noise : ByteArray := prog_1_method_6_code
def y_FL_noise : MethodName := ⟨"FarLink", "noise", "(ZJ)V"⟩
abbrev b_FL_outage : ByteArray := prog_1_method_7_code
def y_FL_outage : MethodName := ⟨"FarLink", "outage", "(ZI)Z"⟩
abbrev b_FL_run : ByteArray := prog_1_method_8_code
def y_FL_run : MethodName := ⟨"FarLink", "run", "(I)I"⟩
abbrev b_FL_time : ByteArray := prog_1_method_9_code
def y_FL_time : MethodName := ⟨"FarLink", "time", "()I"⟩
abbrev b_FL_outcome : ByteArray := prog_1_method_10_code
def y_FL_outcome : MethodName := ⟨"FarLink", "outcome", "(ZI)I"⟩
abbrev b_FL_taken : ByteArray := prog_1_method_11_code
def y_FL_taken : MethodName := ⟨"FarLink", "taken", "(II)I"⟩
abbrev b_FL_missing : ByteArray := prog_1_method_12_code
def y_FL_missing : MethodName := ⟨"FarLink", "missing", "(I)I"⟩
abbrev b_FL_stored : ByteArray := prog_1_method_13_code
def y_FL_stored : MethodName := ⟨"FarLink", "stored", "(II)I"⟩
abbrev b_FL_report : ByteArray := prog_1_method_14_code
def y_FL_report : MethodName := ⟨"FarLink", "report", "()I"⟩
abbrev b_FL_window : ByteArray := prog_1_method_15_code
def y_FL_window : MethodName := ⟨"FarLink", "window", "()I"⟩
abbrev b_FL_alerts : ByteArray := prog_1_method_16_code
def y_FL_alerts : MethodName := ⟨"FarLink", "alerts", "()I"⟩
abbrev b_FL_sent : ByteArray := prog_1_method_17_code
def y_FL_sent : MethodName := ⟨"FarLink", "sent", "(Z)I"⟩
abbrev b_FL_faults : ByteArray := prog_1_method_18_code
def y_FL_faults : MethodName := ⟨"FarLink", "faults", "(Z)I"⟩
abbrev b_FL_encode : ByteArray := prog_1_method_19_code
def y_FL_encode : MethodName := ⟨"FarLink", "encode", "(ZJ)J"⟩
abbrev b_FL_decode : ByteArray := prog_1_method_20_code
def y_FL_decode : MethodName := ⟨"FarLink", "decode", "(ZJ)J"⟩
abbrev b_FL_way : ByteArray := prog_1_method_21_code
def y_FL_way : MethodName := ⟨"FarLink", "way", "(Z)LFarLink$Way;"⟩
abbrev b_FL_tick : ByteArray := prog_1_method_22_code
def y_FL_tick : MethodName := ⟨"FarLink", "tick", "()V"⟩
abbrev b_FL_isBelow : ByteArray := prog_1_method_23_code
def y_FL_isBelow : MethodName := ⟨"FarLink", "isBelow", "(II)Z"⟩
abbrev b_FL_wordsBelow : ByteArray := prog_1_method_24_code
def y_FL_wordsBelow : MethodName := ⟨"FarLink", "wordsBelow", "(I)I"⟩
abbrev b_FL_sumBelow : ByteArray := prog_1_method_25_code
def y_FL_sumBelow : MethodName := ⟨"FarLink", "sumBelow", "(I[I)I"⟩
abbrev b_FL_fourBitsAt : ByteArray := prog_1_method_26_code
def y_FL_fourBitsAt : MethodName := ⟨"FarLink", "fourBitsAt", "(JI)I"⟩
abbrev b_MD_init : ByteArray := prog_13_method_1_code
def y_MD_init : MethodName := ⟨"FarLinkModel", "<init>", "(I)V"⟩
abbrev b_MD_upRest : ByteArray := prog_13_method_2_code
def y_MD_upRest : MethodName := ⟨"FarLinkModel", "upRest", "(J)I"⟩
abbrev b_MD_times : ByteArray := prog_13_method_3_code
def y_MD_times : MethodName := ⟨"FarLinkModel", "times", "(II)I"⟩
abbrev b_MD_power : ByteArray := prog_13_method_4_code
def y_MD_power : MethodName := ⟨"FarLinkModel", "power", "(I)I"⟩
abbrev b_MD_downRest : ByteArray := prog_13_method_5_code
def y_MD_downRest : MethodName := ⟨"FarLinkModel", "downRest", "(J)I"⟩
abbrev b_MD_effect : ByteArray := prog_13_method_6_code
def y_MD_effect : MethodName := ⟨"FarLinkModel", "effect", "(II)I"⟩
abbrev b_MD_encode : ByteArray := prog_13_method_7_code
def y_MD_encode : MethodName := ⟨"FarLinkModel", "encode", "(ZJ)J"⟩
abbrev b_MD_product : ByteArray := prog_13_method_8_code
def y_MD_product : MethodName := ⟨"FarLinkModel", "product", "()J"⟩
abbrev b_MD_decode : ByteArray := prog_13_method_9_code
def y_MD_decode : MethodName := ⟨"FarLinkModel", "decode", "(ZJ)J"⟩
abbrev b_MD_decodeUp : ByteArray := prog_13_method_10_code
def y_MD_decodeUp : MethodName := ⟨"FarLinkModel", "decodeUp", "(J)J"⟩
abbrev b_MD_decodeDown : ByteArray := prog_13_method_11_code
def y_MD_decodeDown : MethodName := ⟨"FarLinkModel", "decodeDown", "(J)J"⟩
abbrev b_MD_second : ByteArray := prog_13_method_12_code
def y_MD_second : MethodName := ⟨"FarLinkModel", "second", "(II)I"⟩
abbrev b_MD_send : ByteArray := prog_13_method_13_code
def y_MD_send : MethodName := ⟨"FarLinkModel", "send", "(IJ)V"⟩
abbrev b_MD_hear : ByteArray := prog_13_method_14_code
def y_MD_hear : MethodName := ⟨"FarLinkModel", "hear", "(I)J"⟩
abbrev b_MD_tick : ByteArray := prog_13_method_15_code
def y_MD_tick : MethodName := ⟨"FarLinkModel", "tick", "()V"⟩
abbrev b_MD_craftFrame : ByteArray := prog_13_method_16_code
def y_MD_craftFrame : MethodName := ⟨"FarLinkModel", "craftFrame", "(J)V"⟩
abbrev b_MD_craftPdu : ByteArray := prog_13_method_17_code
def y_MD_craftPdu : MethodName := ⟨"FarLinkModel", "craftPdu", "(J)V"⟩
abbrev b_MD_takes : ByteArray := prog_13_method_18_code
def y_MD_takes : MethodName := ⟨"FarLinkModel", "takes", "(IIII)Z"⟩
abbrev b_MD_lacking : ByteArray := prog_13_method_19_code
def y_MD_lacking : MethodName := ⟨"FarLinkModel", "lacking", "(I)I"⟩
abbrev b_MD_whole : ByteArray := prog_13_method_20_code
def y_MD_whole : MethodName := ⟨"FarLinkModel", "whole", "(II)V"⟩
abbrev b_MD_finish : ByteArray := prog_13_method_21_code
def y_MD_finish : MethodName := ⟨"FarLinkModel", "finish", "(II)V"⟩
abbrev b_MD_close : ByteArray := prog_13_method_22_code
def y_MD_close : MethodName := ⟨"FarLinkModel", "close", "(I)V"⟩
abbrev b_MD_craftClocks : ByteArray := prog_13_method_23_code
def y_MD_craftClocks : MethodName := ⟨"FarLinkModel", "craftClocks", "(I)V"⟩
abbrev b_MD_craftSends : ByteArray := prog_13_method_24_code
def y_MD_craftSends : MethodName := ⟨"FarLinkModel", "craftSends", "()V"⟩
abbrev b_MD_alert : ByteArray := prog_13_method_25_code
def y_MD_alert : MethodName := ⟨"FarLinkModel", "alert", "(I)V"⟩
abbrev b_MD_markAll : ByteArray := prog_13_method_26_code
def y_MD_markAll : MethodName := ⟨"FarLinkModel", "markAll", "()V"⟩
abbrev b_MD_groundReport : ByteArray := prog_13_method_27_code
def y_MD_groundReport : MethodName := ⟨"FarLinkModel", "groundReport", "(J)V"⟩
abbrev b_MD_activeReport : ByteArray := prog_13_method_28_code
def y_MD_activeReport : MethodName := ⟨"FarLinkModel", "activeReport", "(IZZ)V"⟩
abbrev b_MD_end : ByteArray := prog_13_method_29_code
def y_MD_end : MethodName := ⟨"FarLinkModel", "end", "(II)V"⟩
abbrev b_MD_groundPdu : ByteArray := prog_13_method_30_code
def y_MD_groundPdu : MethodName := ⟨"FarLinkModel", "groundPdu", "(J)V"⟩
abbrev b_MD_frameClocks : ByteArray := prog_13_method_31_code
def y_MD_frameClocks : MethodName := ⟨"FarLinkModel", "frameClocks", "()V"⟩
abbrev b_MD_groundClocks : ByteArray := prog_13_method_32_code
def y_MD_groundClocks : MethodName := ⟨"FarLinkModel", "groundClocks", "(I)V"⟩
abbrev b_MD_makeEndDue : ByteArray := prog_13_method_33_code
def y_MD_makeEndDue : MethodName := ⟨"FarLinkModel", "makeEndDue", "(I)V"⟩
abbrev b_MD_groundSends : ByteArray := prog_13_method_34_code
def y_MD_groundSends : MethodName := ⟨"FarLinkModel", "groundSends", "()V"⟩
abbrev b_MD_sendUp : ByteArray := prog_13_method_35_code
def y_MD_sendUp : MethodName := ⟨"FarLinkModel", "sendUp", "(J)V"⟩
abbrev b_MD_firstDue : ByteArray := prog_13_method_36_code
def y_MD_firstDue : MethodName := ⟨"FarLinkModel", "firstDue", "(I)I"⟩
abbrev b_MD_checksum : ByteArray := prog_13_method_37_code
def y_MD_checksum : MethodName := ⟨"FarLinkModel", "checksum", "(I)I"⟩
abbrev b_MD_sendDue : ByteArray := prog_13_method_38_code
def y_MD_sendDue : MethodName := ⟨"FarLinkModel", "sendDue", "(I)V"⟩
abbrev b_MD_outside : ByteArray := prog_13_method_39_code
def y_MD_outside : MethodName := ⟨"FarLinkModel", "outside", "(II)Z"⟩
abbrev b_MD_write : ByteArray := prog_13_method_40_code
def y_MD_write : MethodName := ⟨"FarLinkModel", "write", "(III)Z"⟩
abbrev b_MD_put : ByteArray := prog_13_method_41_code
def y_MD_put : MethodName := ⟨"FarLinkModel", "put", "(IIIZ)I"⟩
abbrev b_MD_running : ByteArray := prog_13_method_42_code
def y_MD_running : MethodName := ⟨"FarLinkModel", "running", "(I)Z"⟩
abbrev b_MD_cancel : ByteArray := prog_13_method_43_code
def y_MD_cancel : MethodName := ⟨"FarLinkModel", "cancel", "(I)Z"⟩
abbrev b_MD_suspend : ByteArray := prog_13_method_44_code
def y_MD_suspend : MethodName := ⟨"FarLinkModel", "suspend", "(IZ)Z"⟩
abbrev b_MD_noise : ByteArray := prog_13_method_45_code
def y_MD_noise : MethodName := ⟨"FarLinkModel", "noise", "(ZJ)V"⟩
abbrev b_MD_outage : ByteArray := prog_13_method_46_code
def y_MD_outage : MethodName := ⟨"FarLinkModel", "outage", "(ZI)Z"⟩
abbrev b_MD_run : ByteArray := prog_13_method_47_code
def y_MD_run : MethodName := ⟨"FarLinkModel", "run", "(I)I"⟩
abbrev b_MD_time : ByteArray := prog_13_method_48_code
def y_MD_time : MethodName := ⟨"FarLinkModel", "time", "()I"⟩
abbrev b_MD_outcome : ByteArray := prog_13_method_49_code
def y_MD_outcome : MethodName := ⟨"FarLinkModel", "outcome", "(ZI)I"⟩
abbrev b_MD_taken : ByteArray := prog_13_method_50_code
def y_MD_taken : MethodName := ⟨"FarLinkModel", "taken", "(II)I"⟩
abbrev b_MD_missing : ByteArray := prog_13_method_51_code
def y_MD_missing : MethodName := ⟨"FarLinkModel", "missing", "(I)I"⟩
abbrev b_MD_stored : ByteArray := prog_13_method_52_code
def y_MD_stored : MethodName := ⟨"FarLinkModel", "stored", "(II)I"⟩
abbrev b_MD_report : ByteArray := prog_13_method_53_code
def y_MD_report : MethodName := ⟨"FarLinkModel", "report", "()I"⟩
abbrev b_MD_window : ByteArray := prog_13_method_54_code
def y_MD_window : MethodName := ⟨"FarLinkModel", "window", "()I"⟩
abbrev b_MD_alerts : ByteArray := prog_13_method_55_code
def y_MD_alerts : MethodName := ⟨"FarLinkModel", "alerts", "()I"⟩
abbrev b_MD_sent : ByteArray := prog_13_method_56_code
def y_MD_sent : MethodName := ⟨"FarLinkModel", "sent", "(Z)I"⟩
abbrev b_MD_faults : ByteArray := prog_13_method_57_code
def y_MD_faults : MethodName := ⟨"FarLinkModel", "faults", "(Z)I"⟩
abbrev b_CT_init : ByteArray := prog_2_method_1_code
def y_CT_init : MethodName := ⟨"FarLink$Craft", "<init>", "(I)V"⟩
abbrev b_CT_hear : ByteArray := prog_2_method_2_code
def y_CT_hear : MethodName := ⟨"FarLink$Craft", "hear", "(J)V"⟩
abbrev b_CT_stepClocks : ByteArray := prog_2_method_3_code
def y_CT_stepClocks : MethodName := ⟨"FarLink$Craft", "stepClocks", "()V"⟩
abbrev b_CT_nextInfo : ByteArray := prog_2_method_4_code
def y_CT_nextInfo : MethodName := ⟨"FarLink$Craft", "nextInfo", "()J"⟩
abbrev b_CT_countClosed : ByteArray := prog_2_method_5_code
def y_CT_countClosed : MethodName := ⟨"FarLink$Craft", "countClosed", "()I"⟩
abbrev b_CT_storedAt : ByteArray := prog_2_method_6_code
def y_CT_storedAt : MethodName := ⟨"FarLink$Craft", "storedAt", "(II)I"⟩
abbrev b_CT_keep : ByteArray := prog_2_method_7_code
def y_CT_keep : MethodName := ⟨"FarLink$Craft", "keep", "(LFarLink$CraftRecord;)V"⟩
abbrev b_CF_init : ByteArray := prog_3_method_1_code
def y_CF_init : MethodName := ⟨"FarLink$CraftFrames", "<init>", "()V"⟩
abbrev b_CF_giveOn : ByteArray := prog_3_method_2_code
def y_CF_giveOn : MethodName := ⟨"FarLink$CraftFrames", "giveOn", "(II)Z"⟩
abbrev b_CF_giveOnInOrder : ByteArray := prog_3_method_3_code
def y_CF_giveOnInOrder : MethodName := ⟨"FarLink$CraftFrames", "giveOnInOrder", "(I)Z"⟩
abbrev b_CF_reportBits : ByteArray := prog_3_method_4_code
def y_CF_reportBits : MethodName := ⟨"FarLink$CraftFrames", "reportBits", "()I"⟩
abbrev b_CR_init : ByteArray := prog_4_method_1_code
def y_CR_init : MethodName := ⟨"FarLink$CraftRecord", "<init>", "(I)V"⟩
abbrev b_CR_hear : ByteArray := prog_4_method_2_code
def y_CR_hear : MethodName := ⟨"FarLink$CraftRecord", "hear", "(III)Z"⟩
abbrev b_CR_looksAt : ByteArray := prog_4_method_3_code
def y_CR_looksAt : MethodName := ⟨"FarLink$CraftRecord", "looksAt", "(I)Z"⟩
abbrev b_CR_hearOpen : ByteArray := prog_4_method_4_code
def y_CR_hearOpen : MethodName := ⟨"FarLink$CraftRecord", "hearOpen", "(III)Z"⟩
abbrev b_CR_takeMetadata : ByteArray := prog_4_method_5_code
def y_CR_takeMetadata : MethodName := ⟨"FarLink$CraftRecord", "takeMetadata", "(II)Z"⟩
abbrev b_CR_takeData : ByteArray := prog_4_method_6_code
def y_CR_takeData : MethodName := ⟨"FarLink$CraftRecord", "takeData", "(II)Z"⟩
abbrev b_CR_takeEof : ByteArray := prog_4_method_7_code
def y_CR_takeEof : MethodName := ⟨"FarLink$CraftRecord", "takeEof", "(II)Z"⟩
abbrev b_CR_has : ByteArray := prog_4_method_8_code
def y_CR_has : MethodName := ⟨"FarLink$CraftRecord", "has", "(I)Z"⟩
abbrev b_CR_missingParts : ByteArray := prog_4_method_9_code
def y_CR_missingParts : MethodName := ⟨"FarLink$CraftRecord", "missingParts", "()I"⟩
abbrev b_CR_lackingParts : ByteArray := prog_4_method_10_code
def y_CR_lackingParts : MethodName := ⟨"FarLink$CraftRecord", "lackingParts", "()I"⟩
abbrev b_CR_askForParts : ByteArray := prog_4_method_11_code
def y_CR_askForParts : MethodName := ⟨"FarLink$CraftRecord", "askForParts", "()V"⟩
abbrev b_CR_endWith : ByteArray := prog_4_method_12_code
def y_CR_endWith : MethodName := ⟨"FarLink$CraftRecord", "endWith", "(I)V"⟩
abbrev b_CR_tellFinished : ByteArray := prog_4_method_13_code
def y_CR_tellFinished : MethodName := ⟨"FarLink$CraftRecord", "tellFinished", "()V"⟩
abbrev b_CR_becomeClosed : ByteArray := prog_4_method_14_code
def y_CR_becomeClosed : MethodName := ⟨"FarLink$CraftRecord", "becomeClosed", "()V"⟩
abbrev b_CR_stepClocks : ByteArray := prog_4_method_15_code
def y_CR_stepClocks : MethodName := ⟨"FarLink$CraftRecord", "stepClocks", "()V"⟩
abbrev b_CR_stepOpen : ByteArray := prog_4_method_16_code
def y_CR_stepOpen : MethodName := ⟨"FarLink$CraftRecord", "stepOpen", "()V"⟩
abbrev b_CR_stepEnding : ByteArray := prog_4_method_17_code
def y_CR_stepEnding : MethodName := ⟨"FarLink$CraftRecord", "stepEnding", "()V"⟩
abbrev b_CR_owesAny : ByteArray := prog_4_method_18_code
def y_CR_owesAny : MethodName := ⟨"FarLink$CraftRecord", "owesAny", "()Z"⟩
abbrev b_CR_payOne : ByteArray := prog_4_method_19_code
def y_CR_payOne : MethodName := ⟨"FarLink$CraftRecord", "payOne", "()J"⟩
abbrev b_CR_result : ByteArray := prog_4_method_20_code
def y_CR_result : MethodName := ⟨"FarLink$CraftRecord", "result", "()I"⟩
abbrev b_DV_rest : ByteArray := prog_5_method_2_code
def y_DV_rest : MethodName := ⟨"FarLink$Division", "rest", "(JII[I)I"⟩
abbrev b_DC_blockOf : ByteArray := prog_6_method_2_code
def y_DC_blockOf : MethodName := ⟨"FarLink$DownCode", "blockOf", "(J)J"⟩
abbrev b_DC_syndromeOf : ByteArray := prog_6_method_3_code
def y_DC_syndromeOf : MethodName := ⟨"FarLink$DownCode", "syndromeOf", "(J)I"⟩
abbrev b_DC_infoOf : ByteArray := prog_6_method_4_code
def y_DC_infoOf : MethodName := ⟨"FarLink$DownCode", "infoOf", "(J)J"⟩
abbrev b_DC_oneError : ByteArray := prog_6_method_5_code
def y_DC_oneError : MethodName := ⟨"FarLink$DownCode", "oneError", "(III)J"⟩
abbrev b_DC_twoErrors : ByteArray := prog_6_method_6_code
def y_DC_twoErrors : MethodName := ⟨"FarLink$DownCode", "twoErrors", "(IIIII)J"⟩
abbrev b_DC_errorAt : ByteArray := prog_6_method_7_code
def y_DC_errorAt : MethodName := ⟨"FarLink$DownCode", "errorAt", "(II)J"⟩
abbrev b_DC_valueAt : ByteArray := prog_6_method_8_code
def y_DC_valueAt : MethodName := ⟨"FarLink$DownCode", "valueAt", "(II)I"⟩
abbrev b_DC_times : ByteArray := prog_6_method_9_code
def y_DC_times : MethodName := ⟨"FarLink$DownCode", "times", "(II)I"⟩
abbrev b_DC_over : ByteArray := prog_6_method_10_code
def y_DC_over : MethodName := ⟨"FarLink$DownCode", "over", "(II)I"⟩
abbrev b_GR_init : ByteArray := prog_7_method_1_code
def y_GR_init : MethodName := ⟨"FarLink$Ground", "<init>", "(I)V"⟩
abbrev b_GR_has : ByteArray := prog_7_method_2_code
def y_GR_has : MethodName := ⟨"FarLink$Ground", "has", "(I)Z"⟩
abbrev b_GR_begin : ByteArray := prog_7_method_3_code
def y_GR_begin : MethodName := ⟨"FarLink$Ground", "begin", "([IIIZ)I"⟩
abbrev b_GR_hear : ByteArray := prog_7_method_4_code
def y_GR_hear : MethodName := ⟨"FarLink$Ground", "hear", "(J)V"⟩
abbrev b_GR_stepClocks : ByteArray := prog_7_method_5_code
def y_GR_stepClocks : MethodName := ⟨"FarLink$Ground", "stepClocks", "()V"⟩
abbrev b_GR_nextInfo : ByteArray := prog_7_method_6_code
def y_GR_nextInfo : MethodName := ⟨"FarLink$Ground", "nextInfo", "()J"⟩
abbrev b_GR_countEnded : ByteArray := prog_7_method_7_code
def y_GR_countEnded : MethodName := ⟨"FarLink$Ground", "countEnded", "()I"⟩
abbrev b_GF_init : ByteArray := prog_8_method_1_code
def y_GF_init : MethodName := ⟨"FarLink$GroundFrames", "<init>", "(I)V"⟩
abbrev b_GF_hear : ByteArray := prog_8_method_2_code
def y_GF_hear : MethodName := ⟨"FarLink$GroundFrames", "hear", "(IZZ)V"⟩
abbrev b_GF_hearActive : ByteArray := prog_8_method_3_code
def y_GF_hearActive : MethodName := ⟨"FarLink$GroundFrames", "hearActive", "(IZZ)V"⟩
abbrev b_GF_confirm : ByteArray := prog_8_method_4_code
def y_GF_confirm : MethodName := ⟨"FarLink$GroundFrames", "confirm", "(I)V"⟩
abbrev b_GF_recover : ByteArray := prog_8_method_5_code
def y_GF_recover : MethodName := ⟨"FarLink$GroundFrames", "recover", "(Z)V"⟩
abbrev b_GF_alert : ByteArray := prog_8_method_6_code
def y_GF_alert : MethodName := ⟨"FarLink$GroundFrames", "alert", "(I)V"⟩
abbrev b_GF_direct : ByteArray := prog_8_method_7_code
def y_GF_direct : MethodName := ⟨"FarLink$GroundFrames", "direct", "(I)V"⟩
abbrev b_GF_stepClock : ByteArray := prog_8_method_8_code
def y_GF_stepClock : MethodName := ⟨"FarLink$GroundFrames", "stepClock", "()V"⟩
abbrev b_GF_hasRoom : ByteArray := prog_8_method_9_code
def y_GF_hasRoom : MethodName := ⟨"FarLink$GroundFrames", "hasRoom", "()Z"⟩
abbrev b_GF_sendDirective : ByteArray := prog_8_method_10_code
def y_GF_sendDirective : MethodName := ⟨"FarLink$GroundFrames", "sendDirective", "()J"⟩
abbrev b_GF_sendMarked : ByteArray := prog_8_method_11_code
def y_GF_sendMarked : MethodName := ⟨"FarLink$GroundFrames", "sendMarked", "()J"⟩
abbrev b_GF_sendInOrder : ByteArray := prog_8_method_12_code
def y_GF_sendInOrder : MethodName := ⟨"FarLink$GroundFrames", "sendInOrder", "(J)J"⟩
abbrev b_GF_markAll : ByteArray := prog_8_method_13_code
def y_GF_markAll : MethodName := ⟨"FarLink$GroundFrames", "markAll", "()V"⟩
abbrev b_GF_countMarked : ByteArray := prog_8_method_14_code
def y_GF_countMarked : MethodName := ⟨"FarLink$GroundFrames", "countMarked", "()I"⟩
abbrev b_GF_summary : ByteArray := prog_8_method_15_code
def y_GF_summary : MethodName := ⟨"FarLink$GroundFrames", "summary", "()I"⟩
abbrev b_TR_init : ByteArray := prog_9_method_1_code
def y_TR_init : MethodName := ⟨"FarLink$Transaction", "<init>", "(II)V"⟩
abbrev b_TR_begin : ByteArray := prog_9_method_2_code
def y_TR_begin : MethodName := ⟨"FarLink$Transaction", "begin", "([IIIZ)V"⟩
abbrev b_TR_becomeCancelled : ByteArray := prog_9_method_3_code
def y_TR_becomeCancelled : MethodName := ⟨"FarLink$Transaction", "becomeCancelled", "()Z"⟩
abbrev b_TR_becomeSuspended : ByteArray := prog_9_method_4_code
def y_TR_becomeSuspended : MethodName := ⟨"FarLink$Transaction", "becomeSuspended", "(Z)Z"⟩
abbrev b_TR_hear : ByteArray := prog_9_method_5_code
def y_TR_hear : MethodName := ⟨"FarLink$Transaction", "hear", "(II)V"⟩
abbrev b_TR_hearUnderWay : ByteArray := prog_9_method_6_code
def y_TR_hearUnderWay : MethodName := ⟨"FarLink$Transaction", "hearUnderWay", "(II)V"⟩
abbrev b_TR_endWith : ByteArray := prog_9_method_7_code
def y_TR_endWith : MethodName := ⟨"FarLink$Transaction", "endWith", "(I)V"⟩
abbrev b_TR_stepClocks : ByteArray := prog_9_method_8_code
def y_TR_stepClocks : MethodName := ⟨"FarLink$Transaction", "stepClocks", "()V"⟩
abbrev b_TR_stepIdle : ByteArray := prog_9_method_9_code
def y_TR_stepIdle : MethodName := ⟨"FarLink$Transaction", "stepIdle", "()V"⟩
abbrev b_TR_stepClock : ByteArray := prog_9_method_10_code
def y_TR_stepClock : MethodName := ⟨"FarLink$Transaction", "stepClock", "()V"⟩
abbrev b_TR_hasToSend : ByteArray := prog_9_method_11_code
def y_TR_hasToSend : MethodName := ⟨"FarLink$Transaction", "hasToSend", "()Z"⟩
abbrev b_TR_nextPdu : ByteArray := prog_9_method_12_code
def y_TR_nextPdu : MethodName := ⟨"FarLink$Transaction", "nextPdu", "()J"⟩
abbrev b_TR_leastWordDue : ByteArray := prog_9_method_13_code
def y_TR_leastWordDue : MethodName := ⟨"FarLink$Transaction", "leastWordDue", "()I"⟩
abbrev b_TR_pdu : ByteArray := prog_9_method_14_code
def y_TR_pdu : MethodName := ⟨"FarLink$Transaction", "pdu", "(III)J"⟩
abbrev b_TR_result : ByteArray := prog_9_method_15_code
def y_TR_result : MethodName := ⟨"FarLink$Transaction", "result", "()I"⟩
abbrev b_UC_blockOf : ByteArray := prog_10_method_2_code
def y_UC_blockOf : MethodName := ⟨"FarLink$UpCode", "blockOf", "(J)J"⟩
abbrev b_UC_syndromeOf : ByteArray := prog_10_method_3_code
def y_UC_syndromeOf : MethodName := ⟨"FarLink$UpCode", "syndromeOf", "(J)I"⟩
abbrev b_UC_infoOf : ByteArray := prog_10_method_4_code
def y_UC_infoOf : MethodName := ⟨"FarLink$UpCode", "infoOf", "(J)J"⟩
abbrev b_UC_timesX : ByteArray := prog_10_method_5_code
def y_UC_timesX : MethodName := ⟨"FarLink$UpCode", "timesX", "(I)I"⟩
abbrev b_WY_init : ByteArray := prog_11_method_1_code
def y_WY_init : MethodName := ⟨"FarLink$Way", "<init>", "(ZI)V"⟩
abbrev b_WY_turnNext : ByteArray := prog_11_method_2_code
def y_WY_turnNext : MethodName := ⟨"FarLink$Way", "turnNext", "(J)V"⟩
abbrev b_WY_send : ByteArray := prog_11_method_3_code
def y_WY_send : MethodName := ⟨"FarLink$Way", "send", "(IJ)V"⟩
abbrev b_WY_hear : ByteArray := prog_11_method_4_code
def y_WY_hear : MethodName := ⟨"FarLink$Way", "hear", "(I)J"⟩
abbrev b_LW_cell : ByteArray := method_2_code
def y_LW_cell : MethodName := ⟨"FarLinkLaw", "cell", "([II)I"⟩
def gw : List Cond := lw_tbl.filter goodWord
theorem gw_mem {w : Cond} (h : w ∈ lw_tbl) (hg : goodWord w = true) : w ∈ gw := List.mem_filter.mpr ⟨h, hg⟩
theorem tb_mem {w : Cond} (i : Nat) (h : tables_1[i]? = some w) : w ∈ lw_tbl := List.mem_append_right _ (List.mem_of_getElem? h)
theorem ps_mem {w : Cond} (i : Nat) (h : (k2_sels lw_privs)[i]? = some w) : w ∈ lw_tbl := List.mem_append_left _ (List.mem_of_getElem? h)
theorem gw_in {c c' : Cond} (h : c' ∈ gw) : GoodIn (c :: gw) (c' :: gw) := fun w hw => by
  rcases List.mem_cons.mp hw with rfl | hw
  · exact ⟨List.mem_cons_of_mem _ h, good_of_word (List.mem_filter.mp h).2⟩
  · exact ⟨List.mem_cons_of_mem _ hw, good_of_word (List.mem_filter.mp hw).2⟩
set_option maxRecDepth 20000 in
theorem tw_0 : (.initialized "FarLinkLaw" : Cond) ∈ gw := gw_mem (tb_mem 0 rfl) rfl
set_option maxRecDepth 20000 in
theorem tw_1 : (.initialized "FarLink" : Cond) ∈ gw := gw_mem (tb_mem 1 rfl) rfl
set_option maxRecDepth 20000 in
theorem tw_2 : (.initialized "java/lang/Math" : Cond) ∈ gw := gw_mem (tb_mem 2 rfl) rfl
set_option maxRecDepth 20000 in
theorem tw_3 : (.initialized "FarLink$Way" : Cond) ∈ gw := gw_mem (tb_mem 3 rfl) rfl
set_option maxRecDepth 20000 in
theorem tw_4 : (.initialized "FarLink$Ground" : Cond) ∈ gw := gw_mem (tb_mem 4 rfl) rfl
set_option maxRecDepth 20000 in
theorem tw_5 : (.initialized "FarLink$GroundFrames" : Cond) ∈ gw := gw_mem (tb_mem 5 rfl) rfl
set_option maxRecDepth 20000 in
theorem tw_6 : (.initialized "FarLink$Transaction" : Cond) ∈ gw := gw_mem (tb_mem 6 rfl) rfl
set_option maxRecDepth 20000 in
theorem tw_7 : (.initialized "FarLink$Craft" : Cond) ∈ gw := gw_mem (tb_mem 7 rfl) rfl
set_option maxRecDepth 20000 in
theorem tw_8 : (.initialized "FarLink$CraftFrames" : Cond) ∈ gw := gw_mem (tb_mem 8 rfl) rfl
set_option maxRecDepth 20000 in
theorem tw_9 : (.initialized "FarLink$CraftRecord" : Cond) ∈ gw := gw_mem (tb_mem 9 rfl) rfl
set_option maxRecDepth 20000 in
theorem tw_10 : (.initialized "FarLinkModel" : Cond) ∈ gw := gw_mem (tb_mem 10 rfl) rfl
set_option maxRecDepth 20000 in
theorem tw_11 : (.initialized "java/lang/System" : Cond) ∈ gw := gw_mem (tb_mem 11 rfl) rfl
set_option maxRecDepth 20000 in
theorem tw_12 : (.initialized "FarLink$UpCode" : Cond) ∈ gw := gw_mem (tb_mem 12 rfl) rfl
set_option maxRecDepth 20000 in
theorem tw_13 : (.initialized "FarLink$Division" : Cond) ∈ gw := gw_mem (tb_mem 13 rfl) rfl
set_option maxRecDepth 20000 in
theorem tw_14 : (.initialized "FarLink$DownCode" : Cond) ∈ gw := gw_mem (tb_mem 14 rfl) rfl
set_option maxRecDepth 20000 in
theorem tw_15 : (.classLink "FarLinkLaw" 7 "FarLink" : Cond) ∈ gw := gw_mem (tb_mem 15 rfl) rfl
set_option maxRecDepth 20000 in
theorem tw_16 : (.instantiable "FarLink" 6 : Cond) ∈ gw := gw_mem (tb_mem 16 rfl) rfl
set_option maxRecDepth 20000 in
theorem tw_17 : (.methodLink "FarLinkLaw" 15 y_FL_init : Cond) ∈ gw := gw_mem (tb_mem 17 rfl) rfl
set_option maxRecDepth 20000 in
theorem tw_18 : (.instanceMethod y_FL_init : Cond) ∈ gw := gw_mem (tb_mem 18 rfl) rfl
set_option maxRecDepth 20000 in
theorem tw_19 : (.code y_FL_init b_FL_init 4 none : Cond) ∈ gw := gw_mem (tb_mem 19 rfl) rfl
set_option maxRecDepth 20000 in
theorem tw_20 : (.methodLink "FarLink" 1 ⟨"java/lang/Object", "<init>", "()V"⟩ : Cond) ∈ gw := gw_mem (tb_mem 20 rfl) rfl
set_option maxRecDepth 20000 in
theorem tw_21 : (.instanceMethod ⟨"java/lang/Object", "<init>", "()V"⟩ : Cond) ∈ gw := gw_mem (tb_mem 21 rfl) rfl
set_option maxRecDepth 20000 in
theorem tw_22 : (.code ⟨"java/lang/Object", "<init>", "()V"⟩ (object_method_1_code) 1 (Option.none : Option Jvm.ClassFile.FieldType) : Cond) ∈ gw := gw_mem (tb_mem 22 rfl) rfl
set_option maxRecDepth 20000 in
theorem tw_23 : (.classLink "FarLink" 9 "[[I" : Cond) ∈ gw := gw_mem (tb_mem 23 rfl) rfl
set_option maxRecDepth 20000 in
theorem tw_25 : (.methodLink "FarLink" 14 ⟨"java/lang/Math", "min", "(II)I"⟩ : Cond) ∈ gw := gw_mem (tb_mem 25 rfl) rfl
set_option maxRecDepth 20000 in
theorem tw_26 : (.static ⟨"java/lang/Math", "min", "(II)I"⟩ : Cond) ∈ gw := gw_mem (tb_mem 26 rfl) rfl
set_option maxRecDepth 20000 in
theorem tw_27 : (.code ⟨"java/lang/Math", "min", "(II)I"⟩ prog_14_method_69_code 2 (Option.some Jvm.ClassFile.FieldType.int) : Cond) ∈ gw := gw_mem (tb_mem 27 rfl) rfl
set_option maxRecDepth 20000 in
theorem tw_28 : (.methodLink "FarLink" 20 ⟨"java/lang/Math", "max", "(II)I"⟩ : Cond) ∈ gw := gw_mem (tb_mem 28 rfl) rfl
set_option maxRecDepth 20000 in
theorem tw_29 : (.static ⟨"java/lang/Math", "max", "(II)I"⟩ : Cond) ∈ gw := gw_mem (tb_mem 29 rfl) rfl
set_option maxRecDepth 20000 in
theorem tw_30 : (.code ⟨"java/lang/Math", "max", "(II)I"⟩ prog_14_method_65_code 2 (Option.some Jvm.ClassFile.FieldType.int) : Cond) ∈ gw := gw_mem (tb_mem 30 rfl) rfl
set_option maxRecDepth 20000 in
theorem tw_31 : (.classLink "FarLink" 23 "FarLink$Way" : Cond) ∈ gw := gw_mem (tb_mem 31 rfl) rfl
set_option maxRecDepth 20000 in
theorem tw_32 : (.instantiable "FarLink$Way" 8 : Cond) ∈ gw := gw_mem (tb_mem 32 rfl) rfl
set_option maxRecDepth 20000 in
theorem tw_33 : (.methodLink "FarLink" 25 y_WY_init : Cond) ∈ gw := gw_mem (tb_mem 33 rfl) rfl
set_option maxRecDepth 20000 in
theorem tw_34 : (.instanceMethod y_WY_init : Cond) ∈ gw := gw_mem (tb_mem 34 rfl) rfl
set_option maxRecDepth 20000 in
theorem tw_35 : (.code y_WY_init b_WY_init 4 none : Cond) ∈ gw := gw_mem (tb_mem 35 rfl) rfl
set_option maxRecDepth 20000 in
theorem tw_36 : (.methodLink "FarLink$Way" 5 ⟨"java/lang/Object", "<init>", "()V"⟩ : Cond) ∈ gw := gw_mem (tb_mem 36 rfl) rfl
set_option maxRecDepth 20000 in
theorem tw_37 : (.constantLong "FarLink$Way" 23 (-1) : Cond) ∈ gw := gw_mem (tb_mem 37 rfl) rfl
set_option maxRecDepth 20000 in
theorem tw_38 : (.fieldLink "FarLink$Way" 15 "FarLink$Way" "isUp" "Z" : Cond) ∈ gw := gw_mem (tb_mem 38 rfl) rfl
set_option maxRecDepth 20000 in
theorem tw_39 : (.fieldLink "FarLink$Way" 19 "FarLink$Way" "delay" "I" : Cond) ∈ gw := gw_mem (tb_mem 39 rfl) rfl
set_option maxRecDepth 20000 in
theorem tw_40 : (.fieldLink "FarLink$Way" 11 "FarLink$Way" "blocks" "[J" : Cond) ∈ gw := gw_mem (tb_mem 40 rfl) rfl
set_option maxRecDepth 20000 in
theorem tw_41 : (.fieldLink "FarLink$Way" 25 "FarLink$Way" "turned" "J" : Cond) ∈ gw := gw_mem (tb_mem 41 rfl) rfl
set_option maxRecDepth 20000 in
theorem tw_42 : (.fieldLink "FarLink$Way" 45 "FarLink$Way" "outageLeft" "I" : Cond) ∈ gw := gw_mem (tb_mem 42 rfl) rfl
set_option maxRecDepth 20000 in
theorem tw_44 : (.fieldLink "FarLink$Way" 42 "FarLink$Way" "sentCount" "I" : Cond) ∈ gw := gw_mem (tb_mem 44 rfl) rfl
set_option maxRecDepth 20000 in
theorem tw_46 : (.fieldLink "FarLink$Way" 52 "FarLink$Way" "spoiltCount" "I" : Cond) ∈ gw := gw_mem (tb_mem 46 rfl) rfl
set_option maxRecDepth 20000 in
theorem tw_48 : (.fieldLink "FarLink$Way" 60 "FarLink$Way" "mendedCount" "I" : Cond) ∈ gw := gw_mem (tb_mem 48 rfl) rfl
set_option maxRecDepth 20000 in
theorem tw_50 : (.laysFinal "FarLink$Way" "FarLink$Way" "isUp" "Z" : Cond) ∈ gw := gw_mem (tb_mem 50 rfl) rfl
set_option maxRecDepth 20000 in
theorem tw_52 : (.laysFinal "FarLink$Way" "FarLink$Way" "delay" "I" : Cond) ∈ gw := gw_mem (tb_mem 52 rfl) rfl
set_option maxRecDepth 20000 in
theorem tw_54 : (.laysFinal "FarLink$Way" "FarLink$Way" "blocks" "[J" : Cond) ∈ gw := gw_mem (tb_mem 54 rfl) rfl
set_option maxRecDepth 20000 in
theorem tw_56 : (.lays "FarLink$Way" "FarLink$Way" "turned" "J" : Cond) ∈ gw := gw_mem (tb_mem 56 rfl) rfl
set_option maxRecDepth 20000 in
theorem tw_58 : (.lays "FarLink$Way" "FarLink$Way" "outageLeft" "I" : Cond) ∈ gw := gw_mem (tb_mem 58 rfl) rfl
set_option maxRecDepth 20000 in
theorem tw_60 : (.lays "FarLink$Way" "FarLink$Way" "sentCount" "I" : Cond) ∈ gw := gw_mem (tb_mem 60 rfl) rfl
set_option maxRecDepth 20000 in
theorem tw_62 : (.lays "FarLink$Way" "FarLink$Way" "spoiltCount" "I" : Cond) ∈ gw := gw_mem (tb_mem 62 rfl) rfl
set_option maxRecDepth 20000 in
theorem tw_64 : (.lays "FarLink$Way" "FarLink$Way" "mendedCount" "I" : Cond) ∈ gw := gw_mem (tb_mem 64 rfl) rfl
set_option maxRecDepth 20000 in
theorem tw_67 : (.arrayClass .int : Cond) ∈ gw := gw_mem (tb_mem 67 rfl) rfl
set_option maxRecDepth 20000 in
theorem tw_68 : (.arrayClass .long : Cond) ∈ gw := gw_mem (tb_mem 68 rfl) rfl
set_option maxRecDepth 20000 in
theorem tw_69 : (.classLink "FarLink" 35 "FarLink$Ground" : Cond) ∈ gw := gw_mem (tb_mem 69 rfl) rfl
set_option maxRecDepth 20000 in
theorem tw_70 : (.instantiable "FarLink$Ground" 3 : Cond) ∈ gw := gw_mem (tb_mem 70 rfl) rfl
set_option maxRecDepth 20000 in
theorem tw_71 : (.methodLink "FarLink" 37 y_GR_init : Cond) ∈ gw := gw_mem (tb_mem 71 rfl) rfl
set_option maxRecDepth 20000 in
theorem tw_72 : (.instanceMethod y_GR_init : Cond) ∈ gw := gw_mem (tb_mem 72 rfl) rfl
set_option maxRecDepth 20000 in
theorem tw_73 : (.code y_GR_init b_GR_init 3 none : Cond) ∈ gw := gw_mem (tb_mem 73 rfl) rfl
set_option maxRecDepth 20000 in
theorem tw_74 : (.methodLink "FarLink$Ground" 3 ⟨"java/lang/Object", "<init>", "()V"⟩ : Cond) ∈ gw := gw_mem (tb_mem 74 rfl) rfl
set_option maxRecDepth 20000 in
theorem tw_75 : (.classLink "FarLink$Ground" 9 "FarLink$Transaction" : Cond) ∈ gw := gw_mem (tb_mem 75 rfl) rfl
set_option maxRecDepth 20000 in
theorem tw_77 : (.classLink "FarLink$Ground" 17 "FarLink$GroundFrames" : Cond) ∈ gw := gw_mem (tb_mem 77 rfl) rfl
set_option maxRecDepth 20000 in
theorem tw_78 : (.instantiable "FarLink$GroundFrames" 11 : Cond) ∈ gw := gw_mem (tb_mem 78 rfl) rfl
set_option maxRecDepth 20000 in
theorem tw_79 : (.methodLink "FarLink$Ground" 19 y_GF_init : Cond) ∈ gw := gw_mem (tb_mem 79 rfl) rfl
set_option maxRecDepth 20000 in
theorem tw_80 : (.instanceMethod y_GF_init : Cond) ∈ gw := gw_mem (tb_mem 80 rfl) rfl
set_option maxRecDepth 20000 in
theorem tw_81 : (.code y_GF_init b_GF_init 2 none : Cond) ∈ gw := gw_mem (tb_mem 81 rfl) rfl
set_option maxRecDepth 20000 in
theorem tw_82 : (.methodLink "FarLink$GroundFrames" 3 ⟨"java/lang/Object", "<init>", "()V"⟩ : Cond) ∈ gw := gw_mem (tb_mem 82 rfl) rfl
set_option maxRecDepth 20000 in
theorem tw_83 : (.fieldLink "FarLink$GroundFrames" 26 "FarLink$GroundFrames" "span" "I" : Cond) ∈ gw := gw_mem (tb_mem 83 rfl) rfl
set_option maxRecDepth 20000 in
theorem tw_84 : (.fieldLink "FarLink$GroundFrames" 9 "FarLink$GroundFrames" "infos" "[J" : Cond) ∈ gw := gw_mem (tb_mem 84 rfl) rfl
set_option maxRecDepth 20000 in
theorem tw_85 : (.fieldLink "FarLink$GroundFrames" 15 "FarLink$GroundFrames" "marks" "[Z" : Cond) ∈ gw := gw_mem (tb_mem 85 rfl) rfl
set_option maxRecDepth 20000 in
theorem tw_86 : (.fieldLink "FarLink$GroundFrames" 19 "FarLink$GroundFrames" "state" "I" : Cond) ∈ gw := gw_mem (tb_mem 86 rfl) rfl
set_option maxRecDepth 20000 in
theorem tw_87 : (.fieldLink "FarLink$GroundFrames" 37 "FarLink$GroundFrames" "next" "I" : Cond) ∈ gw := gw_mem (tb_mem 87 rfl) rfl
set_option maxRecDepth 20000 in
theorem tw_88 : (.fieldLink "FarLink$GroundFrames" 44 "FarLink$GroundFrames" "unconfirmed" "I" : Cond) ∈ gw := gw_mem (tb_mem 88 rfl) rfl
set_option maxRecDepth 20000 in
theorem tw_89 : (.fieldLink "FarLink$GroundFrames" 23 "FarLink$GroundFrames" "count" "I" : Cond) ∈ gw := gw_mem (tb_mem 89 rfl) rfl
set_option maxRecDepth 20000 in
theorem tw_90 : (.fieldLink "FarLink$GroundFrames" 60 "FarLink$GroundFrames" "clock" "I" : Cond) ∈ gw := gw_mem (tb_mem 90 rfl) rfl
set_option maxRecDepth 20000 in
theorem tw_91 : (.fieldLink "FarLink$GroundFrames" 66 "FarLink$GroundFrames" "alertCount" "I" : Cond) ∈ gw := gw_mem (tb_mem 91 rfl) rfl
set_option maxRecDepth 20000 in
theorem tw_93 : (.fieldLink "FarLink$GroundFrames" 40 "FarLink$GroundFrames" "isDirectiveDue" "Z" : Cond) ∈ gw := gw_mem (tb_mem 93 rfl) rfl
set_option maxRecDepth 20000 in
theorem tw_95 : (.fieldLink "FarLink$GroundFrames" 53 "FarLink$GroundFrames" "isRecovering" "Z" : Cond) ∈ gw := gw_mem (tb_mem 95 rfl) rfl
set_option maxRecDepth 20000 in
theorem tw_96 : (.laysFinal "FarLink$GroundFrames" "FarLink$GroundFrames" "span" "I" : Cond) ∈ gw := gw_mem (tb_mem 96 rfl) rfl
set_option maxRecDepth 20000 in
theorem tw_98 : (.laysFinal "FarLink$GroundFrames" "FarLink$GroundFrames" "infos" "[J" : Cond) ∈ gw := gw_mem (tb_mem 98 rfl) rfl
set_option maxRecDepth 20000 in
theorem tw_100 : (.laysFinal "FarLink$GroundFrames" "FarLink$GroundFrames" "marks" "[Z" : Cond) ∈ gw := gw_mem (tb_mem 100 rfl) rfl
set_option maxRecDepth 20000 in
theorem tw_102 : (.lays "FarLink$GroundFrames" "FarLink$GroundFrames" "state" "I" : Cond) ∈ gw := gw_mem (tb_mem 102 rfl) rfl
set_option maxRecDepth 20000 in
theorem tw_104 : (.lays "FarLink$GroundFrames" "FarLink$GroundFrames" "next" "I" : Cond) ∈ gw := gw_mem (tb_mem 104 rfl) rfl
set_option maxRecDepth 20000 in
theorem tw_106 : (.lays "FarLink$GroundFrames" "FarLink$GroundFrames" "unconfirmed" "I" : Cond) ∈ gw := gw_mem (tb_mem 106 rfl) rfl
set_option maxRecDepth 20000 in
theorem tw_108 : (.lays "FarLink$GroundFrames" "FarLink$GroundFrames" "count" "I" : Cond) ∈ gw := gw_mem (tb_mem 108 rfl) rfl
set_option maxRecDepth 20000 in
theorem tw_110 : (.lays "FarLink$GroundFrames" "FarLink$GroundFrames" "clock" "I" : Cond) ∈ gw := gw_mem (tb_mem 110 rfl) rfl
set_option maxRecDepth 20000 in
theorem tw_112 : (.lays "FarLink$GroundFrames" "FarLink$GroundFrames" "alertCount" "I" : Cond) ∈ gw := gw_mem (tb_mem 112 rfl) rfl
set_option maxRecDepth 20000 in
theorem tw_114 : (.lays "FarLink$GroundFrames" "FarLink$GroundFrames" "isDirectiveDue" "Z" : Cond) ∈ gw := gw_mem (tb_mem 114 rfl) rfl
set_option maxRecDepth 20000 in
theorem tw_116 : (.lays "FarLink$GroundFrames" "FarLink$GroundFrames" "isRecovering" "Z" : Cond) ∈ gw := gw_mem (tb_mem 116 rfl) rfl
set_option maxRecDepth 20000 in
theorem tw_119 : (.arrayClass .boolean : Cond) ∈ gw := gw_mem (tb_mem 119 rfl) rfl
set_option maxRecDepth 20000 in
theorem tw_120 : (.instantiable "FarLink$Transaction" 15 : Cond) ∈ gw := gw_mem (tb_mem 120 rfl) rfl
set_option maxRecDepth 20000 in
theorem tw_121 : (.methodLink "FarLink$Ground" 26 y_TR_init : Cond) ∈ gw := gw_mem (tb_mem 121 rfl) rfl
set_option maxRecDepth 20000 in
theorem tw_122 : (.instanceMethod y_TR_init : Cond) ∈ gw := gw_mem (tb_mem 122 rfl) rfl
set_option maxRecDepth 20000 in
theorem tw_123 : (.code y_TR_init b_TR_init 3 none : Cond) ∈ gw := gw_mem (tb_mem 123 rfl) rfl
set_option maxRecDepth 20000 in
theorem tw_124 : (.methodLink "FarLink$Transaction" 3 ⟨"java/lang/Object", "<init>", "()V"⟩ : Cond) ∈ gw := gw_mem (tb_mem 124 rfl) rfl
set_option maxRecDepth 20000 in
theorem tw_125 : (.fieldLink "FarLink$Transaction" 15 "FarLink$Transaction" "number" "I" : Cond) ∈ gw := gw_mem (tb_mem 125 rfl) rfl
set_option maxRecDepth 20000 in
theorem tw_126 : (.fieldLink "FarLink$Transaction" 19 "FarLink$Transaction" "span" "I" : Cond) ∈ gw := gw_mem (tb_mem 126 rfl) rfl
set_option maxRecDepth 20000 in
theorem tw_127 : (.fieldLink "FarLink$Transaction" 9 "FarLink$Transaction" "words" "[I" : Cond) ∈ gw := gw_mem (tb_mem 127 rfl) rfl
set_option maxRecDepth 20000 in
theorem tw_128 : (.fieldLink "FarLink$Transaction" 28 "FarLink$Transaction" "length" "I" : Cond) ∈ gw := gw_mem (tb_mem 128 rfl) rfl
set_option maxRecDepth 20000 in
theorem tw_129 : (.fieldLink "FarLink$Transaction" 31 "FarLink$Transaction" "name" "I" : Cond) ∈ gw := gw_mem (tb_mem 129 rfl) rfl
set_option maxRecDepth 20000 in
theorem tw_130 : (.fieldLink "FarLink$Transaction" 34 "FarLink$Transaction" "isPast" "Z" : Cond) ∈ gw := gw_mem (tb_mem 130 rfl) rfl
set_option maxRecDepth 20000 in
theorem tw_132 : (.fieldLink "FarLink$Transaction" 43 "FarLink$Transaction" "due" "I" : Cond) ∈ gw := gw_mem (tb_mem 132 rfl) rfl
set_option maxRecDepth 20000 in
theorem tw_133 : (.fieldLink "FarLink$Transaction" 46 "FarLink$Transaction" "tries" "I" : Cond) ∈ gw := gw_mem (tb_mem 133 rfl) rfl
set_option maxRecDepth 20000 in
theorem tw_134 : (.fieldLink "FarLink$Transaction" 84 "FarLink$Transaction" "clock" "I" : Cond) ∈ gw := gw_mem (tb_mem 134 rfl) rfl
set_option maxRecDepth 20000 in
theorem tw_135 : (.fieldLink "FarLink$Transaction" 62 "FarLink$Transaction" "idle" "I" : Cond) ∈ gw := gw_mem (tb_mem 135 rfl) rfl
set_option maxRecDepth 20000 in
theorem tw_136 : (.fieldLink "FarLink$Transaction" 75 "FarLink$Transaction" "endOutcome" "I" : Cond) ∈ gw := gw_mem (tb_mem 136 rfl) rfl
set_option maxRecDepth 20000 in
theorem tw_137 : (.fieldLink "FarLink$Transaction" 56 "FarLink$Transaction" "isAnswered" "Z" : Cond) ∈ gw := gw_mem (tb_mem 137 rfl) rfl
set_option maxRecDepth 20000 in
theorem tw_138 : (.fieldLink "FarLink$Transaction" 52 "FarLink$Transaction" "isCancelled" "Z" : Cond) ∈ gw := gw_mem (tb_mem 138 rfl) rfl
set_option maxRecDepth 20000 in
theorem tw_139 : (.fieldLink "FarLink$Transaction" 59 "FarLink$Transaction" "isSuspended" "Z" : Cond) ∈ gw := gw_mem (tb_mem 139 rfl) rfl
set_option maxRecDepth 20000 in
theorem tw_140 : (.fieldLink "FarLink$Transaction" 49 "FarLink$Transaction" "isEnded" "Z" : Cond) ∈ gw := gw_mem (tb_mem 140 rfl) rfl
set_option maxRecDepth 20000 in
theorem tw_142 : (.laysFinal "FarLink$Transaction" "FarLink$Transaction" "number" "I" : Cond) ∈ gw := gw_mem (tb_mem 142 rfl) rfl
set_option maxRecDepth 20000 in
theorem tw_144 : (.laysFinal "FarLink$Transaction" "FarLink$Transaction" "span" "I" : Cond) ∈ gw := gw_mem (tb_mem 144 rfl) rfl
set_option maxRecDepth 20000 in
theorem tw_146 : (.laysFinal "FarLink$Transaction" "FarLink$Transaction" "words" "[I" : Cond) ∈ gw := gw_mem (tb_mem 146 rfl) rfl
set_option maxRecDepth 20000 in
theorem tw_148 : (.lays "FarLink$Transaction" "FarLink$Transaction" "length" "I" : Cond) ∈ gw := gw_mem (tb_mem 148 rfl) rfl
set_option maxRecDepth 20000 in
theorem tw_150 : (.lays "FarLink$Transaction" "FarLink$Transaction" "name" "I" : Cond) ∈ gw := gw_mem (tb_mem 150 rfl) rfl
set_option maxRecDepth 20000 in
theorem tw_152 : (.lays "FarLink$Transaction" "FarLink$Transaction" "isPast" "Z" : Cond) ∈ gw := gw_mem (tb_mem 152 rfl) rfl
set_option maxRecDepth 20000 in
theorem tw_154 : (.lays "FarLink$Transaction" "FarLink$Transaction" "due" "I" : Cond) ∈ gw := gw_mem (tb_mem 154 rfl) rfl
set_option maxRecDepth 20000 in
theorem tw_156 : (.lays "FarLink$Transaction" "FarLink$Transaction" "tries" "I" : Cond) ∈ gw := gw_mem (tb_mem 156 rfl) rfl
set_option maxRecDepth 20000 in
theorem tw_158 : (.lays "FarLink$Transaction" "FarLink$Transaction" "clock" "I" : Cond) ∈ gw := gw_mem (tb_mem 158 rfl) rfl
set_option maxRecDepth 20000 in
theorem tw_160 : (.lays "FarLink$Transaction" "FarLink$Transaction" "idle" "I" : Cond) ∈ gw := gw_mem (tb_mem 160 rfl) rfl
set_option maxRecDepth 20000 in
theorem tw_162 : (.lays "FarLink$Transaction" "FarLink$Transaction" "endOutcome" "I" : Cond) ∈ gw := gw_mem (tb_mem 162 rfl) rfl
set_option maxRecDepth 20000 in
theorem tw_164 : (.lays "FarLink$Transaction" "FarLink$Transaction" "isAnswered" "Z" : Cond) ∈ gw := gw_mem (tb_mem 164 rfl) rfl
set_option maxRecDepth 20000 in
theorem tw_166 : (.lays "FarLink$Transaction" "FarLink$Transaction" "isCancelled" "Z" : Cond) ∈ gw := gw_mem (tb_mem 166 rfl) rfl
set_option maxRecDepth 20000 in
theorem tw_168 : (.lays "FarLink$Transaction" "FarLink$Transaction" "isSuspended" "Z" : Cond) ∈ gw := gw_mem (tb_mem 168 rfl) rfl
set_option maxRecDepth 20000 in
theorem tw_170 : (.lays "FarLink$Transaction" "FarLink$Transaction" "isEnded" "Z" : Cond) ∈ gw := gw_mem (tb_mem 170 rfl) rfl
set_option maxRecDepth 20000 in
theorem tw_173 : (.fieldLink "FarLink$Ground" 22 "FarLink$Ground" "frames" "LFarLink$GroundFrames;" : Cond) ∈ gw := gw_mem (tb_mem 173 rfl) rfl
set_option maxRecDepth 20000 in
theorem tw_175 : (.fieldLink "FarLink$Ground" 11 "FarLink$Ground" "transactions" "[LFarLink$Transaction;" : Cond) ∈ gw := gw_mem (tb_mem 175 rfl) rfl
set_option maxRecDepth 20000 in
theorem tw_177 : (.fieldLink "FarLink$Ground" 29 "FarLink$Ground" "begun" "I" : Cond) ∈ gw := gw_mem (tb_mem 177 rfl) rfl
set_option maxRecDepth 20000 in
theorem tw_178 : (.laysFinal "FarLink$Ground" "FarLink$Ground" "frames" "LFarLink$GroundFrames;" : Cond) ∈ gw := gw_mem (tb_mem 178 rfl) rfl
set_option maxRecDepth 20000 in
theorem tw_180 : (.laysFinal "FarLink$Ground" "FarLink$Ground" "transactions" "[LFarLink$Transaction;" : Cond) ∈ gw := gw_mem (tb_mem 180 rfl) rfl
set_option maxRecDepth 20000 in
theorem tw_182 : (.lays "FarLink$Ground" "FarLink$Ground" "begun" "I" : Cond) ∈ gw := gw_mem (tb_mem 182 rfl) rfl
set_option maxRecDepth 20000 in
theorem tw_185 : (.classLink "FarLink" 44 "FarLink$Craft" : Cond) ∈ gw := gw_mem (tb_mem 185 rfl) rfl
set_option maxRecDepth 20000 in
theorem tw_186 : (.instantiable "FarLink$Craft" 4 : Cond) ∈ gw := gw_mem (tb_mem 186 rfl) rfl
set_option maxRecDepth 20000 in
theorem tw_187 : (.methodLink "FarLink" 46 y_CT_init : Cond) ∈ gw := gw_mem (tb_mem 187 rfl) rfl
set_option maxRecDepth 20000 in
theorem tw_188 : (.instanceMethod y_CT_init : Cond) ∈ gw := gw_mem (tb_mem 188 rfl) rfl
set_option maxRecDepth 20000 in
theorem tw_189 : (.code y_CT_init b_CT_init 3 none : Cond) ∈ gw := gw_mem (tb_mem 189 rfl) rfl
set_option maxRecDepth 20000 in
theorem tw_190 : (.methodLink "FarLink$Craft" 3 ⟨"java/lang/Object", "<init>", "()V"⟩ : Cond) ∈ gw := gw_mem (tb_mem 190 rfl) rfl
set_option maxRecDepth 20000 in
theorem tw_191 : (.classLink "FarLink$Craft" 9 "FarLink$CraftFrames" : Cond) ∈ gw := gw_mem (tb_mem 191 rfl) rfl
set_option maxRecDepth 20000 in
theorem tw_192 : (.instantiable "FarLink$CraftFrames" 3 : Cond) ∈ gw := gw_mem (tb_mem 192 rfl) rfl
set_option maxRecDepth 20000 in
theorem tw_194 : (.instanceMethod y_CF_init : Cond) ∈ gw := gw_mem (tb_mem 194 rfl) rfl
set_option maxRecDepth 20000 in
theorem tw_195 : (.code y_CF_init b_CF_init 1 none : Cond) ∈ gw := gw_mem (tb_mem 195 rfl) rfl
set_option maxRecDepth 20000 in
theorem tw_196 : (.methodLink "FarLink$CraftFrames" 3 ⟨"java/lang/Object", "<init>", "()V"⟩ : Cond) ∈ gw := gw_mem (tb_mem 196 rfl) rfl
set_option maxRecDepth 20000 in
theorem tw_197 : (.fieldLink "FarLink$CraftFrames" 22 "FarLink$CraftFrames" "expected" "I" : Cond) ∈ gw := gw_mem (tb_mem 197 rfl) rfl
set_option maxRecDepth 20000 in
theorem tw_198 : (.fieldLink "FarLink$CraftFrames" 9 "FarLink$CraftFrames" "isLocked" "Z" : Cond) ∈ gw := gw_mem (tb_mem 198 rfl) rfl
set_option maxRecDepth 20000 in
theorem tw_199 : (.fieldLink "FarLink$CraftFrames" 19 "FarLink$CraftFrames" "wantsAgain" "Z" : Cond) ∈ gw := gw_mem (tb_mem 199 rfl) rfl
set_option maxRecDepth 20000 in
theorem tw_200 : (.lays "FarLink$CraftFrames" "FarLink$CraftFrames" "expected" "I" : Cond) ∈ gw := gw_mem (tb_mem 200 rfl) rfl
set_option maxRecDepth 20000 in
theorem tw_202 : (.lays "FarLink$CraftFrames" "FarLink$CraftFrames" "isLocked" "Z" : Cond) ∈ gw := gw_mem (tb_mem 202 rfl) rfl
set_option maxRecDepth 20000 in
theorem tw_204 : (.lays "FarLink$CraftFrames" "FarLink$CraftFrames" "wantsAgain" "Z" : Cond) ∈ gw := gw_mem (tb_mem 204 rfl) rfl
set_option maxRecDepth 20000 in
theorem tw_207 : (.classLink "FarLink$Craft" 18 "FarLink$CraftRecord" : Cond) ∈ gw := gw_mem (tb_mem 207 rfl) rfl
set_option maxRecDepth 20000 in
theorem tw_209 : (.classLink "FarLink$Craft" 28 "[[I" : Cond) ∈ gw := gw_mem (tb_mem 209 rfl) rfl
set_option maxRecDepth 20000 in
theorem tw_210 : (.instantiable "FarLink$CraftRecord" 15 : Cond) ∈ gw := gw_mem (tb_mem 210 rfl) rfl
set_option maxRecDepth 20000 in
theorem tw_211 : (.methodLink "FarLink$Craft" 33 y_CR_init : Cond) ∈ gw := gw_mem (tb_mem 211 rfl) rfl
set_option maxRecDepth 20000 in
theorem tw_212 : (.instanceMethod y_CR_init : Cond) ∈ gw := gw_mem (tb_mem 212 rfl) rfl
set_option maxRecDepth 20000 in
theorem tw_213 : (.code y_CR_init b_CR_init 2 none : Cond) ∈ gw := gw_mem (tb_mem 213 rfl) rfl
set_option maxRecDepth 20000 in
theorem tw_214 : (.methodLink "FarLink$CraftRecord" 3 ⟨"java/lang/Object", "<init>", "()V"⟩ : Cond) ∈ gw := gw_mem (tb_mem 214 rfl) rfl
set_option maxRecDepth 20000 in
theorem tw_215 : (.fieldLink "FarLink$CraftRecord" 15 "FarLink$CraftRecord" "span" "I" : Cond) ∈ gw := gw_mem (tb_mem 215 rfl) rfl
set_option maxRecDepth 20000 in
theorem tw_216 : (.fieldLink "FarLink$CraftRecord" 9 "FarLink$CraftRecord" "words" "[I" : Cond) ∈ gw := gw_mem (tb_mem 216 rfl) rfl
set_option maxRecDepth 20000 in
theorem tw_219 : (.fieldLink "FarLink$CraftRecord" 23 "FarLink$CraftRecord" "state" "I" : Cond) ∈ gw := gw_mem (tb_mem 219 rfl) rfl
set_option maxRecDepth 20000 in
theorem tw_222 : (.fieldLink "FarLink$CraftRecord" 106 "FarLink$CraftRecord" "condition" "I" : Cond) ∈ gw := gw_mem (tb_mem 222 rfl) rfl
set_option maxRecDepth 20000 in
theorem tw_223 : (.fieldLink "FarLink$CraftRecord" 84 "FarLink$CraftRecord" "takenParts" "I" : Cond) ∈ gw := gw_mem (tb_mem 223 rfl) rfl
set_option maxRecDepth 20000 in
theorem tw_224 : (.fieldLink "FarLink$CraftRecord" 58 "FarLink$CraftRecord" "length" "I" : Cond) ∈ gw := gw_mem (tb_mem 224 rfl) rfl
set_option maxRecDepth 20000 in
theorem tw_226 : (.fieldLink "FarLink$CraftRecord" 87 "FarLink$CraftRecord" "name" "I" : Cond) ∈ gw := gw_mem (tb_mem 226 rfl) rfl
set_option maxRecDepth 20000 in
theorem tw_228 : (.fieldLink "FarLink$CraftRecord" 61 "FarLink$CraftRecord" "eofLength" "I" : Cond) ∈ gw := gw_mem (tb_mem 228 rfl) rfl
set_option maxRecDepth 20000 in
theorem tw_229 : (.fieldLink "FarLink$CraftRecord" 68 "FarLink$CraftRecord" "checksum" "I" : Cond) ∈ gw := gw_mem (tb_mem 229 rfl) rfl
set_option maxRecDepth 20000 in
theorem tw_230 : (.fieldLink "FarLink$CraftRecord" 37 "FarLink$CraftRecord" "idle" "I" : Cond) ∈ gw := gw_mem (tb_mem 230 rfl) rfl
set_option maxRecDepth 20000 in
theorem tw_231 : (.fieldLink "FarLink$CraftRecord" 103 "FarLink$CraftRecord" "clock" "I" : Cond) ∈ gw := gw_mem (tb_mem 231 rfl) rfl
set_option maxRecDepth 20000 in
theorem tw_232 : (.fieldLink "FarLink$CraftRecord" 71 "FarLink$CraftRecord" "tries" "I" : Cond) ∈ gw := gw_mem (tb_mem 232 rfl) rfl
set_option maxRecDepth 20000 in
theorem tw_233 : (.fieldLink "FarLink$CraftRecord" 26 "FarLink$CraftRecord" "owesGot" "Z" : Cond) ∈ gw := gw_mem (tb_mem 233 rfl) rfl
set_option maxRecDepth 20000 in
theorem tw_234 : (.fieldLink "FarLink$CraftRecord" 100 "FarLink$CraftRecord" "owesLack" "Z" : Cond) ∈ gw := gw_mem (tb_mem 234 rfl) rfl
set_option maxRecDepth 20000 in
theorem tw_235 : (.fieldLink "FarLink$CraftRecord" 112 "FarLink$CraftRecord" "owesFinished" "Z" : Cond) ∈ gw := gw_mem (tb_mem 235 rfl) rfl
set_option maxRecDepth 20000 in
theorem tw_236 : (.laysFinal "FarLink$CraftRecord" "FarLink$CraftRecord" "span" "I" : Cond) ∈ gw := gw_mem (tb_mem 236 rfl) rfl
set_option maxRecDepth 20000 in
theorem tw_238 : (.laysFinal "FarLink$CraftRecord" "FarLink$CraftRecord" "words" "[I" : Cond) ∈ gw := gw_mem (tb_mem 238 rfl) rfl
set_option maxRecDepth 20000 in
theorem tw_240 : (.lays "FarLink$CraftRecord" "FarLink$CraftRecord" "state" "I" : Cond) ∈ gw := gw_mem (tb_mem 240 rfl) rfl
set_option maxRecDepth 20000 in
theorem tw_242 : (.lays "FarLink$CraftRecord" "FarLink$CraftRecord" "condition" "I" : Cond) ∈ gw := gw_mem (tb_mem 242 rfl) rfl
set_option maxRecDepth 20000 in
theorem tw_244 : (.lays "FarLink$CraftRecord" "FarLink$CraftRecord" "takenParts" "I" : Cond) ∈ gw := gw_mem (tb_mem 244 rfl) rfl
set_option maxRecDepth 20000 in
theorem tw_246 : (.lays "FarLink$CraftRecord" "FarLink$CraftRecord" "length" "I" : Cond) ∈ gw := gw_mem (tb_mem 246 rfl) rfl
set_option maxRecDepth 20000 in
theorem tw_248 : (.lays "FarLink$CraftRecord" "FarLink$CraftRecord" "name" "I" : Cond) ∈ gw := gw_mem (tb_mem 248 rfl) rfl
set_option maxRecDepth 20000 in
theorem tw_250 : (.lays "FarLink$CraftRecord" "FarLink$CraftRecord" "eofLength" "I" : Cond) ∈ gw := gw_mem (tb_mem 250 rfl) rfl
set_option maxRecDepth 20000 in
theorem tw_252 : (.lays "FarLink$CraftRecord" "FarLink$CraftRecord" "checksum" "I" : Cond) ∈ gw := gw_mem (tb_mem 252 rfl) rfl
set_option maxRecDepth 20000 in
theorem tw_254 : (.lays "FarLink$CraftRecord" "FarLink$CraftRecord" "idle" "I" : Cond) ∈ gw := gw_mem (tb_mem 254 rfl) rfl
set_option maxRecDepth 20000 in
theorem tw_256 : (.lays "FarLink$CraftRecord" "FarLink$CraftRecord" "clock" "I" : Cond) ∈ gw := gw_mem (tb_mem 256 rfl) rfl
set_option maxRecDepth 20000 in
theorem tw_258 : (.lays "FarLink$CraftRecord" "FarLink$CraftRecord" "tries" "I" : Cond) ∈ gw := gw_mem (tb_mem 258 rfl) rfl
set_option maxRecDepth 20000 in
theorem tw_260 : (.lays "FarLink$CraftRecord" "FarLink$CraftRecord" "owesGot" "Z" : Cond) ∈ gw := gw_mem (tb_mem 260 rfl) rfl
set_option maxRecDepth 20000 in
theorem tw_262 : (.lays "FarLink$CraftRecord" "FarLink$CraftRecord" "owesLack" "Z" : Cond) ∈ gw := gw_mem (tb_mem 262 rfl) rfl
set_option maxRecDepth 20000 in
theorem tw_264 : (.lays "FarLink$CraftRecord" "FarLink$CraftRecord" "owesFinished" "Z" : Cond) ∈ gw := gw_mem (tb_mem 264 rfl) rfl
set_option maxRecDepth 20000 in
theorem tw_267 : (.fieldLink "FarLink$Craft" 12 "FarLink$Craft" "frames" "LFarLink$CraftFrames;" : Cond) ∈ gw := gw_mem (tb_mem 267 rfl) rfl
set_option maxRecDepth 20000 in
theorem tw_269 : (.fieldLink "FarLink$Craft" 20 "FarLink$Craft" "records" "[LFarLink$CraftRecord;" : Cond) ∈ gw := gw_mem (tb_mem 269 rfl) rfl
set_option maxRecDepth 20000 in
theorem tw_271 : (.fieldLink "FarLink$Craft" 24 "FarLink$Craft" "storedLengths" "[I" : Cond) ∈ gw := gw_mem (tb_mem 271 rfl) rfl
set_option maxRecDepth 20000 in
theorem tw_272 : (.fieldLink "FarLink$Craft" 30 "FarLink$Craft" "storedWords" "[[I" : Cond) ∈ gw := gw_mem (tb_mem 272 rfl) rfl
set_option maxRecDepth 20000 in
theorem tw_273 : (.laysFinal "FarLink$Craft" "FarLink$Craft" "frames" "LFarLink$CraftFrames;" : Cond) ∈ gw := gw_mem (tb_mem 273 rfl) rfl
set_option maxRecDepth 20000 in
theorem tw_275 : (.laysFinal "FarLink$Craft" "FarLink$Craft" "records" "[LFarLink$CraftRecord;" : Cond) ∈ gw := gw_mem (tb_mem 275 rfl) rfl
set_option maxRecDepth 20000 in
theorem tw_277 : (.laysFinal "FarLink$Craft" "FarLink$Craft" "storedLengths" "[I" : Cond) ∈ gw := gw_mem (tb_mem 277 rfl) rfl
set_option maxRecDepth 20000 in
theorem tw_279 : (.laysFinal "FarLink$Craft" "FarLink$Craft" "storedWords" "[[I" : Cond) ∈ gw := gw_mem (tb_mem 279 rfl) rfl
set_option maxRecDepth 20000 in
theorem tw_282 : (.fieldLink "FarLink" 11 "FarLink" "files" "[[I" : Cond) ∈ gw := gw_mem (tb_mem 282 rfl) rfl
set_option maxRecDepth 20000 in
theorem tw_283 : (.fieldLink "FarLink" 28 "FarLink" "upWay" "LFarLink$Way;" : Cond) ∈ gw := gw_mem (tb_mem 283 rfl) rfl
set_option maxRecDepth 20000 in
theorem tw_284 : (.fieldLink "FarLink" 32 "FarLink" "downWay" "LFarLink$Way;" : Cond) ∈ gw := gw_mem (tb_mem 284 rfl) rfl
set_option maxRecDepth 20000 in
theorem tw_285 : (.fieldLink "FarLink" 40 "FarLink" "ground" "LFarLink$Ground;" : Cond) ∈ gw := gw_mem (tb_mem 285 rfl) rfl
set_option maxRecDepth 20000 in
theorem tw_286 : (.fieldLink "FarLink" 47 "FarLink" "craft" "LFarLink$Craft;" : Cond) ∈ gw := gw_mem (tb_mem 286 rfl) rfl
set_option maxRecDepth 20000 in
theorem tw_287 : (.fieldLink "FarLink" 99 "FarLink" "now" "I" : Cond) ∈ gw := gw_mem (tb_mem 287 rfl) rfl
set_option maxRecDepth 20000 in
theorem tw_288 : (.laysFinal "FarLink" "FarLink" "files" "[[I" : Cond) ∈ gw := gw_mem (tb_mem 288 rfl) rfl
set_option maxRecDepth 20000 in
theorem tw_290 : (.laysFinal "FarLink" "FarLink" "upWay" "LFarLink$Way;" : Cond) ∈ gw := gw_mem (tb_mem 290 rfl) rfl
set_option maxRecDepth 20000 in
theorem tw_292 : (.laysFinal "FarLink" "FarLink" "downWay" "LFarLink$Way;" : Cond) ∈ gw := gw_mem (tb_mem 292 rfl) rfl
set_option maxRecDepth 20000 in
theorem tw_294 : (.laysFinal "FarLink" "FarLink" "ground" "LFarLink$Ground;" : Cond) ∈ gw := gw_mem (tb_mem 294 rfl) rfl
set_option maxRecDepth 20000 in
theorem tw_296 : (.laysFinal "FarLink" "FarLink" "craft" "LFarLink$Craft;" : Cond) ∈ gw := gw_mem (tb_mem 296 rfl) rfl
set_option maxRecDepth 20000 in
theorem tw_298 : (.lays "FarLink" "FarLink" "now" "I" : Cond) ∈ gw := gw_mem (tb_mem 298 rfl) rfl
set_option maxRecDepth 20000 in
theorem tw_301 : (.methodLink "FarLinkLaw" 21 y_FL_write : Cond) ∈ gw := gw_mem (tb_mem 301 rfl) rfl
set_option maxRecDepth 20000 in
theorem tw_302 : (.instanceMethod y_FL_write : Cond) ∈ gw := gw_mem (tb_mem 302 rfl) rfl
set_option maxRecDepth 20000 in
theorem tw_303 : (.selects "FarLink" y_FL_write y_FL_write : Cond) ∈ gw := gw_mem (tb_mem 303 rfl) rfl
set_option maxRecDepth 20000 in
theorem tw_304 : (.code y_FL_write b_FL_write 4 (some .boolean) : Cond) ∈ gw := gw_mem (tb_mem 304 rfl) rfl
set_option maxRecDepth 20000 in
theorem tw_305 : (.methodLink "FarLink" 51 y_FL_isBelow : Cond) ∈ gw := gw_mem (tb_mem 305 rfl) rfl
set_option maxRecDepth 20000 in
theorem tw_306 : (.static y_FL_isBelow : Cond) ∈ gw := gw_mem (tb_mem 306 rfl) rfl
set_option maxRecDepth 20000 in
theorem tw_307 : (.code y_FL_isBelow b_FL_isBelow 2 (some .boolean) : Cond) ∈ gw := gw_mem (tb_mem 307 rfl) rfl
set_option maxRecDepth 20000 in
theorem tw_308 : (.methodLink "FarLinkLaw" 26 y_FL_put : Cond) ∈ gw := gw_mem (tb_mem 308 rfl) rfl
set_option maxRecDepth 20000 in
theorem tw_309 : (.instanceMethod y_FL_put : Cond) ∈ gw := gw_mem (tb_mem 309 rfl) rfl
set_option maxRecDepth 20000 in
theorem tw_310 : (.selects "FarLink" y_FL_put y_FL_put : Cond) ∈ gw := gw_mem (tb_mem 310 rfl) rfl
set_option maxRecDepth 20000 in
theorem tw_311 : (.code y_FL_put b_FL_put 5 (some .int) : Cond) ∈ gw := gw_mem (tb_mem 311 rfl) rfl
set_option maxRecDepth 20000 in
theorem tw_312 : (.methodLink "FarLink" 55 y_GR_begin : Cond) ∈ gw := gw_mem (tb_mem 312 rfl) rfl
set_option maxRecDepth 20000 in
theorem tw_313 : (.instanceMethod y_GR_begin : Cond) ∈ gw := gw_mem (tb_mem 313 rfl) rfl
set_option maxRecDepth 20000 in
theorem tw_314 : (.selects "FarLink$Ground" y_GR_begin y_GR_begin : Cond) ∈ gw := gw_mem (tb_mem 314 rfl) rfl
set_option maxRecDepth 20000 in
theorem tw_315 : (.code y_GR_begin b_GR_begin 5 (some .int) : Cond) ∈ gw := gw_mem (tb_mem 315 rfl) rfl
set_option maxRecDepth 20000 in
theorem tw_316 : (.methodLink "FarLink$Ground" 37 y_TR_begin : Cond) ∈ gw := gw_mem (tb_mem 316 rfl) rfl
set_option maxRecDepth 20000 in
theorem tw_317 : (.instanceMethod y_TR_begin : Cond) ∈ gw := gw_mem (tb_mem 317 rfl) rfl
set_option maxRecDepth 20000 in
theorem tw_318 : (.selects "FarLink$Transaction" y_TR_begin y_TR_begin : Cond) ∈ gw := gw_mem (tb_mem 318 rfl) rfl
set_option maxRecDepth 20000 in
theorem tw_319 : (.code y_TR_begin b_TR_begin 5 none : Cond) ∈ gw := gw_mem (tb_mem 319 rfl) rfl
set_option maxRecDepth 20000 in
theorem tw_320 : (.methodLink "FarLink$Transaction" 22 ⟨"java/lang/System", "arraycopy", "(Ljava/lang/Object;ILjava/lang/Object;II)V"⟩ : Cond) ∈ gw := gw_mem (tb_mem 320 rfl) rfl
set_option maxRecDepth 20000 in
theorem tw_321 : (.static ⟨"java/lang/System", "arraycopy", "(Ljava/lang/Object;ILjava/lang/Object;II)V"⟩ : Cond) ∈ gw := gw_mem (tb_mem 321 rfl) rfl
set_option maxRecDepth 20000 in
theorem tw_322 : (.native ⟨"java/lang/System", "arraycopy", "(Ljava/lang/Object;ILjava/lang/Object;II)V"⟩ : Cond) ∈ gw := gw_mem (tb_mem 322 rfl) rfl
set_option maxRecDepth 20000 in
theorem tw_323 : (.constant "FarLink$Transaction" 38 196608 : Cond) ∈ gw := gw_mem (tb_mem 323 rfl) rfl
set_option maxRecDepth 20000 in
theorem tw_325 : (.static y_FL_wordsBelow : Cond) ∈ gw := gw_mem (tb_mem 325 rfl) rfl
set_option maxRecDepth 20000 in
theorem tw_326 : (.code y_FL_wordsBelow b_FL_wordsBelow 1 (some .int) : Cond) ∈ gw := gw_mem (tb_mem 326 rfl) rfl
set_option maxRecDepth 20000 in
theorem tw_327 : (.methodLink "FarLinkLaw" 31 y_FL_cancel : Cond) ∈ gw := gw_mem (tb_mem 327 rfl) rfl
set_option maxRecDepth 20000 in
theorem tw_328 : (.instanceMethod y_FL_cancel : Cond) ∈ gw := gw_mem (tb_mem 328 rfl) rfl
set_option maxRecDepth 20000 in
theorem tw_329 : (.selects "FarLink" y_FL_cancel y_FL_cancel : Cond) ∈ gw := gw_mem (tb_mem 329 rfl) rfl
set_option maxRecDepth 20000 in
theorem tw_330 : (.code y_FL_cancel b_FL_cancel 2 (some .boolean) : Cond) ∈ gw := gw_mem (tb_mem 330 rfl) rfl
set_option maxRecDepth 20000 in
theorem tw_331 : (.methodLink "FarLink" 59 y_GR_has : Cond) ∈ gw := gw_mem (tb_mem 331 rfl) rfl
set_option maxRecDepth 20000 in
theorem tw_332 : (.instanceMethod y_GR_has : Cond) ∈ gw := gw_mem (tb_mem 332 rfl) rfl
set_option maxRecDepth 20000 in
theorem tw_333 : (.selects "FarLink$Ground" y_GR_has y_GR_has : Cond) ∈ gw := gw_mem (tb_mem 333 rfl) rfl
set_option maxRecDepth 20000 in
theorem tw_334 : (.code y_GR_has b_GR_has 2 (some .boolean) : Cond) ∈ gw := gw_mem (tb_mem 334 rfl) rfl
set_option maxRecDepth 20000 in
theorem tw_336 : (.methodLink "FarLink" 67 y_TR_becomeCancelled : Cond) ∈ gw := gw_mem (tb_mem 336 rfl) rfl
set_option maxRecDepth 20000 in
theorem tw_337 : (.instanceMethod y_TR_becomeCancelled : Cond) ∈ gw := gw_mem (tb_mem 337 rfl) rfl
set_option maxRecDepth 20000 in
theorem tw_338 : (.selects "FarLink$Transaction" y_TR_becomeCancelled y_TR_becomeCancelled : Cond) ∈ gw := gw_mem (tb_mem 338 rfl) rfl
set_option maxRecDepth 20000 in
theorem tw_339 : (.code y_TR_becomeCancelled b_TR_becomeCancelled 1 (some .boolean) : Cond) ∈ gw := gw_mem (tb_mem 339 rfl) rfl
set_option maxRecDepth 20000 in
theorem tw_340 : (.constant "FarLink$Transaction" 55 131072 : Cond) ∈ gw := gw_mem (tb_mem 340 rfl) rfl
set_option maxRecDepth 20000 in
theorem tw_341 : (.methodLink "FarLinkLaw" 36 y_FL_suspend : Cond) ∈ gw := gw_mem (tb_mem 341 rfl) rfl
set_option maxRecDepth 20000 in
theorem tw_342 : (.instanceMethod y_FL_suspend : Cond) ∈ gw := gw_mem (tb_mem 342 rfl) rfl
set_option maxRecDepth 20000 in
theorem tw_343 : (.selects "FarLink" y_FL_suspend y_FL_suspend : Cond) ∈ gw := gw_mem (tb_mem 343 rfl) rfl
set_option maxRecDepth 20000 in
theorem tw_344 : (.code y_FL_suspend b_FL_suspend 3 (some .boolean) : Cond) ∈ gw := gw_mem (tb_mem 344 rfl) rfl
set_option maxRecDepth 20000 in
theorem tw_345 : (.methodLink "FarLink" 73 y_TR_becomeSuspended : Cond) ∈ gw := gw_mem (tb_mem 345 rfl) rfl
set_option maxRecDepth 20000 in
theorem tw_346 : (.instanceMethod y_TR_becomeSuspended : Cond) ∈ gw := gw_mem (tb_mem 346 rfl) rfl
set_option maxRecDepth 20000 in
theorem tw_347 : (.selects "FarLink$Transaction" y_TR_becomeSuspended y_TR_becomeSuspended : Cond) ∈ gw := gw_mem (tb_mem 347 rfl) rfl
set_option maxRecDepth 20000 in
theorem tw_348 : (.code y_TR_becomeSuspended b_TR_becomeSuspended 2 (some .boolean) : Cond) ∈ gw := gw_mem (tb_mem 348 rfl) rfl
set_option maxRecDepth 20000 in
theorem tw_349 : (.methodLink "FarLinkLaw" 43 y_FL_noise : Cond) ∈ gw := gw_mem (tb_mem 349 rfl) rfl
set_option maxRecDepth 20000 in
theorem tw_350 : (.instanceMethod y_FL_noise : Cond) ∈ gw := gw_mem (tb_mem 350 rfl) rfl
set_option maxRecDepth 20000 in
theorem tw_351 : (.selects "FarLink" y_FL_noise y_FL_noise : Cond) ∈ gw := gw_mem (tb_mem 351 rfl) rfl
set_option maxRecDepth 20000 in
theorem tw_352 : (.code y_FL_noise b_FL_noise 4 none : Cond) ∈ gw := gw_mem (tb_mem 352 rfl) rfl
set_option maxRecDepth 20000 in
theorem tw_353 : (.methodLink "FarLink" 77 y_FL_way : Cond) ∈ gw := gw_mem (tb_mem 353 rfl) rfl
set_option maxRecDepth 20000 in
theorem tw_355 : (.instanceMethod y_FL_way : Cond) ∈ gw := gw_mem (tb_mem 355 rfl) rfl
set_option maxRecDepth 20000 in
theorem tw_356 : (.code y_FL_way b_FL_way 2 (some (.object "FarLink$Way")) : Cond) ∈ gw := gw_mem (tb_mem 356 rfl) rfl
set_option maxRecDepth 20000 in
theorem tw_357 : (.methodLink "FarLink" 81 y_WY_turnNext : Cond) ∈ gw := gw_mem (tb_mem 357 rfl) rfl
set_option maxRecDepth 20000 in
theorem tw_358 : (.instanceMethod y_WY_turnNext : Cond) ∈ gw := gw_mem (tb_mem 358 rfl) rfl
set_option maxRecDepth 20000 in
theorem tw_359 : (.selects "FarLink$Way" y_WY_turnNext y_WY_turnNext : Cond) ∈ gw := gw_mem (tb_mem 359 rfl) rfl
set_option maxRecDepth 20000 in
theorem tw_360 : (.code y_WY_turnNext b_WY_turnNext 3 none : Cond) ∈ gw := gw_mem (tb_mem 360 rfl) rfl
set_option maxRecDepth 20000 in
theorem tw_361 : (.constantLong "FarLink$Way" 31 9223372036854775807 : Cond) ∈ gw := gw_mem (tb_mem 361 rfl) rfl
set_option maxRecDepth 20000 in
theorem tw_362 : (.constantLong "FarLink$Way" 35 1152921504606846975 : Cond) ∈ gw := gw_mem (tb_mem 362 rfl) rfl
set_option maxRecDepth 20000 in
theorem tw_363 : (.methodLink "FarLinkLaw" 48 y_FL_outage : Cond) ∈ gw := gw_mem (tb_mem 363 rfl) rfl
set_option maxRecDepth 20000 in
theorem tw_364 : (.instanceMethod y_FL_outage : Cond) ∈ gw := gw_mem (tb_mem 364 rfl) rfl
set_option maxRecDepth 20000 in
theorem tw_365 : (.selects "FarLink" y_FL_outage y_FL_outage : Cond) ∈ gw := gw_mem (tb_mem 365 rfl) rfl
set_option maxRecDepth 20000 in
theorem tw_366 : (.code y_FL_outage b_FL_outage 3 (some .boolean) : Cond) ∈ gw := gw_mem (tb_mem 366 rfl) rfl
set_option maxRecDepth 20000 in
theorem tw_367 : (.methodLink "FarLinkLaw" 53 y_FL_run : Cond) ∈ gw := gw_mem (tb_mem 367 rfl) rfl
set_option maxRecDepth 20000 in
theorem tw_368 : (.instanceMethod y_FL_run : Cond) ∈ gw := gw_mem (tb_mem 368 rfl) rfl
set_option maxRecDepth 20000 in
theorem tw_369 : (.selects "FarLink" y_FL_run y_FL_run : Cond) ∈ gw := gw_mem (tb_mem 369 rfl) rfl
set_option maxRecDepth 20000 in
theorem tw_370 : (.code y_FL_run b_FL_run 4 (some .int) : Cond) ∈ gw := gw_mem (tb_mem 370 rfl) rfl
set_option maxRecDepth 20000 in
theorem tw_371 : (.methodLink "FarLink" 89 y_GR_countEnded : Cond) ∈ gw := gw_mem (tb_mem 371 rfl) rfl
set_option maxRecDepth 20000 in
theorem tw_372 : (.instanceMethod y_GR_countEnded : Cond) ∈ gw := gw_mem (tb_mem 372 rfl) rfl
set_option maxRecDepth 20000 in
theorem tw_373 : (.selects "FarLink$Ground" y_GR_countEnded y_GR_countEnded : Cond) ∈ gw := gw_mem (tb_mem 373 rfl) rfl
set_option maxRecDepth 20000 in
theorem tw_374 : (.code y_GR_countEnded b_GR_countEnded 3 (some .int) : Cond) ∈ gw := gw_mem (tb_mem 374 rfl) rfl
set_option maxRecDepth 20000 in
theorem tw_375 : (.methodLink "FarLink" 93 y_CT_countClosed : Cond) ∈ gw := gw_mem (tb_mem 375 rfl) rfl
set_option maxRecDepth 20000 in
theorem tw_376 : (.instanceMethod y_CT_countClosed : Cond) ∈ gw := gw_mem (tb_mem 376 rfl) rfl
set_option maxRecDepth 20000 in
theorem tw_377 : (.selects "FarLink$Craft" y_CT_countClosed y_CT_countClosed : Cond) ∈ gw := gw_mem (tb_mem 377 rfl) rfl
set_option maxRecDepth 20000 in
theorem tw_378 : (.code y_CT_countClosed b_CT_countClosed 3 (some .int) : Cond) ∈ gw := gw_mem (tb_mem 378 rfl) rfl
set_option maxRecDepth 20000 in
theorem tw_379 : (.methodLink "FarLink" 96 y_FL_tick : Cond) ∈ gw := gw_mem (tb_mem 379 rfl) rfl
set_option maxRecDepth 20000 in
theorem tw_381 : (.instanceMethod y_FL_tick : Cond) ∈ gw := gw_mem (tb_mem 381 rfl) rfl
set_option maxRecDepth 20000 in
theorem tw_382 : (.code y_FL_tick b_FL_tick 3 none : Cond) ∈ gw := gw_mem (tb_mem 382 rfl) rfl
set_option maxRecDepth 20000 in
theorem tw_383 : (.methodLink "FarLink" 168 y_WY_hear : Cond) ∈ gw := gw_mem (tb_mem 383 rfl) rfl
set_option maxRecDepth 20000 in
theorem tw_384 : (.instanceMethod y_WY_hear : Cond) ∈ gw := gw_mem (tb_mem 384 rfl) rfl
set_option maxRecDepth 20000 in
theorem tw_385 : (.selects "FarLink$Way" y_WY_hear y_WY_hear : Cond) ∈ gw := gw_mem (tb_mem 385 rfl) rfl
set_option maxRecDepth 20000 in
theorem tw_386 : (.code y_WY_hear b_WY_hear 7 (some .long) : Cond) ∈ gw := gw_mem (tb_mem 386 rfl) rfl
set_option maxRecDepth 20000 in
theorem tw_387 : (.methodLink "FarLink$Way" 48 y_UC_infoOf : Cond) ∈ gw := gw_mem (tb_mem 387 rfl) rfl
set_option maxRecDepth 20000 in
theorem tw_388 : (.static y_UC_infoOf : Cond) ∈ gw := gw_mem (tb_mem 388 rfl) rfl
set_option maxRecDepth 20000 in
theorem tw_389 : (.code y_UC_infoOf b_UC_infoOf 7 (some .long) : Cond) ∈ gw := gw_mem (tb_mem 389 rfl) rfl
set_option maxRecDepth 20000 in
theorem tw_390 : (.constantLong "FarLink$UpCode" 11 72057594037927935 : Cond) ∈ gw := gw_mem (tb_mem 390 rfl) rfl
set_option maxRecDepth 20000 in
theorem tw_391 : (.methodLink "FarLink$UpCode" 25 y_UC_syndromeOf : Cond) ∈ gw := gw_mem (tb_mem 391 rfl) rfl
set_option maxRecDepth 20000 in
theorem tw_392 : (.static y_UC_syndromeOf : Cond) ∈ gw := gw_mem (tb_mem 392 rfl) rfl
set_option maxRecDepth 20000 in
theorem tw_393 : (.code y_UC_syndromeOf b_UC_syndromeOf 3 (some .int) : Cond) ∈ gw := gw_mem (tb_mem 393 rfl) rfl
set_option maxRecDepth 20000 in
theorem tw_394 : (.fieldLink "FarLink$UpCode" 13 "FarLink$UpCode" "RESTS" "[I" : Cond) ∈ gw := gw_mem (tb_mem 394 rfl) rfl
set_option maxRecDepth 20000 in
theorem tw_396 : (.methodLink "FarLink$UpCode" 17 y_DV_rest : Cond) ∈ gw := gw_mem (tb_mem 396 rfl) rfl
set_option maxRecDepth 20000 in
theorem tw_397 : (.static y_DV_rest : Cond) ∈ gw := gw_mem (tb_mem 397 rfl) rfl
set_option maxRecDepth 20000 in
theorem tw_398 : (.code y_DV_rest b_DV_rest 10 (some .int) : Cond) ∈ gw := gw_mem (tb_mem 398 rfl) rfl
set_option maxRecDepth 20000 in
theorem tw_400 : (.static y_FL_fourBitsAt : Cond) ∈ gw := gw_mem (tb_mem 400 rfl) rfl
set_option maxRecDepth 20000 in
theorem tw_401 : (.code y_FL_fourBitsAt b_FL_fourBitsAt 3 (some .int) : Cond) ∈ gw := gw_mem (tb_mem 401 rfl) rfl
set_option maxRecDepth 20000 in
theorem tw_402 : (.constantLong "FarLink$UpCode" 23 127 : Cond) ∈ gw := gw_mem (tb_mem 402 rfl) rfl
set_option maxRecDepth 20000 in
theorem tw_403 : (.methodLink "FarLink$UpCode" 29 y_UC_timesX : Cond) ∈ gw := gw_mem (tb_mem 403 rfl) rfl
set_option maxRecDepth 20000 in
theorem tw_404 : (.static y_UC_timesX : Cond) ∈ gw := gw_mem (tb_mem 404 rfl) rfl
set_option maxRecDepth 20000 in
theorem tw_405 : (.code y_UC_timesX b_UC_timesX 2 (some .int) : Cond) ∈ gw := gw_mem (tb_mem 405 rfl) rfl
set_option maxRecDepth 20000 in
theorem tw_406 : (.constantLong "FarLink$UpCode" 33 (-1) : Cond) ∈ gw := gw_mem (tb_mem 406 rfl) rfl
set_option maxRecDepth 20000 in
theorem tw_407 : (.methodLink "FarLink$Way" 51 y_DC_infoOf : Cond) ∈ gw := gw_mem (tb_mem 407 rfl) rfl
set_option maxRecDepth 20000 in
theorem tw_408 : (.static y_DC_infoOf : Cond) ∈ gw := gw_mem (tb_mem 408 rfl) rfl
set_option maxRecDepth 20000 in
theorem tw_409 : (.code y_DC_infoOf b_DC_infoOf 10 (some .long) : Cond) ∈ gw := gw_mem (tb_mem 409 rfl) rfl
set_option maxRecDepth 20000 in
theorem tw_410 : (.methodLink "FarLink$DownCode" 25 y_DC_syndromeOf : Cond) ∈ gw := gw_mem (tb_mem 410 rfl) rfl
set_option maxRecDepth 20000 in
theorem tw_411 : (.static y_DC_syndromeOf : Cond) ∈ gw := gw_mem (tb_mem 411 rfl) rfl
set_option maxRecDepth 20000 in
theorem tw_412 : (.code y_DC_syndromeOf b_DC_syndromeOf 3 (some .int) : Cond) ∈ gw := gw_mem (tb_mem 412 rfl) rfl
set_option maxRecDepth 20000 in
theorem tw_413 : (.fieldLink "FarLink$DownCode" 13 "FarLink$DownCode" "RESTS" "[I" : Cond) ∈ gw := gw_mem (tb_mem 413 rfl) rfl
set_option maxRecDepth 20000 in
theorem tw_415 : (.methodLink "FarLink$DownCode" 17 y_DV_rest : Cond) ∈ gw := gw_mem (tb_mem 415 rfl) rfl
set_option maxRecDepth 20000 in
theorem tw_416 : (.constantLong "FarLink$DownCode" 23 65535 : Cond) ∈ gw := gw_mem (tb_mem 416 rfl) rfl
set_option maxRecDepth 20000 in
theorem tw_417 : (.constantLong "FarLink$DownCode" 11 17592186044415 : Cond) ∈ gw := gw_mem (tb_mem 417 rfl) rfl
set_option maxRecDepth 20000 in
theorem tw_418 : (.methodLink "FarLink$DownCode" 29 y_DC_valueAt : Cond) ∈ gw := gw_mem (tb_mem 418 rfl) rfl
set_option maxRecDepth 20000 in
theorem tw_419 : (.static y_DC_valueAt : Cond) ∈ gw := gw_mem (tb_mem 419 rfl) rfl
set_option maxRecDepth 20000 in
theorem tw_420 : (.code y_DC_valueAt b_DC_valueAt 4 (some .int) : Cond) ∈ gw := gw_mem (tb_mem 420 rfl) rfl
set_option maxRecDepth 20000 in
theorem tw_422 : (.fieldLink "FarLink$DownCode" 53 "FarLink$DownCode" "POWERS" "[I" : Cond) ∈ gw := gw_mem (tb_mem 422 rfl) rfl
set_option maxRecDepth 20000 in
theorem tw_424 : (.methodLink "FarLink$DownCode" 33 y_DC_times : Cond) ∈ gw := gw_mem (tb_mem 424 rfl) rfl
set_option maxRecDepth 20000 in
theorem tw_425 : (.static y_DC_times : Cond) ∈ gw := gw_mem (tb_mem 425 rfl) rfl
set_option maxRecDepth 20000 in
theorem tw_426 : (.code y_DC_times b_DC_times 2 (some .int) : Cond) ∈ gw := gw_mem (tb_mem 426 rfl) rfl
set_option maxRecDepth 20000 in
theorem tw_427 : (.fieldLink "FarLink$DownCode" 56 "FarLink$DownCode" "LOGS" "[I" : Cond) ∈ gw := gw_mem (tb_mem 427 rfl) rfl
set_option maxRecDepth 20000 in
theorem tw_429 : (.methodLink "FarLink$DownCode" 36 y_DC_oneError : Cond) ∈ gw := gw_mem (tb_mem 429 rfl) rfl
set_option maxRecDepth 20000 in
theorem tw_430 : (.static y_DC_oneError : Cond) ∈ gw := gw_mem (tb_mem 430 rfl) rfl
set_option maxRecDepth 20000 in
theorem tw_431 : (.code y_DC_oneError b_DC_oneError 5 (some .long) : Cond) ∈ gw := gw_mem (tb_mem 431 rfl) rfl
set_option maxRecDepth 20000 in
theorem tw_432 : (.methodLink "FarLink$DownCode" 46 y_DC_over : Cond) ∈ gw := gw_mem (tb_mem 432 rfl) rfl
set_option maxRecDepth 20000 in
theorem tw_433 : (.static y_DC_over : Cond) ∈ gw := gw_mem (tb_mem 433 rfl) rfl
set_option maxRecDepth 20000 in
theorem tw_434 : (.code y_DC_over b_DC_over 2 (some .int) : Cond) ∈ gw := gw_mem (tb_mem 434 rfl) rfl
set_option maxRecDepth 20000 in
theorem tw_435 : (.constantLong "FarLink$DownCode" 44 (-1) : Cond) ∈ gw := gw_mem (tb_mem 435 rfl) rfl
set_option maxRecDepth 20000 in
theorem tw_436 : (.methodLink "FarLink$DownCode" 49 y_DC_errorAt : Cond) ∈ gw := gw_mem (tb_mem 436 rfl) rfl
set_option maxRecDepth 20000 in
theorem tw_437 : (.static y_DC_errorAt : Cond) ∈ gw := gw_mem (tb_mem 437 rfl) rfl
set_option maxRecDepth 20000 in
theorem tw_438 : (.code y_DC_errorAt b_DC_errorAt 2 (some .long) : Cond) ∈ gw := gw_mem (tb_mem 438 rfl) rfl
set_option maxRecDepth 20000 in
theorem tw_439 : (.methodLink "FarLink$DownCode" 40 y_DC_twoErrors : Cond) ∈ gw := gw_mem (tb_mem 439 rfl) rfl
set_option maxRecDepth 20000 in
theorem tw_440 : (.static y_DC_twoErrors : Cond) ∈ gw := gw_mem (tb_mem 440 rfl) rfl
set_option maxRecDepth 20000 in
theorem tw_441 : (.code y_DC_twoErrors b_DC_twoErrors 12 (some .long) : Cond) ∈ gw := gw_mem (tb_mem 441 rfl) rfl
set_option maxRecDepth 20000 in
theorem tw_442 : (.methodLink "FarLink$Way" 55 y_UC_syndromeOf : Cond) ∈ gw := gw_mem (tb_mem 442 rfl) rfl
set_option maxRecDepth 20000 in
theorem tw_443 : (.methodLink "FarLink$Way" 59 y_DC_syndromeOf : Cond) ∈ gw := gw_mem (tb_mem 443 rfl) rfl
set_option maxRecDepth 20000 in
theorem tw_444 : (.methodLink "FarLink" 172 y_CT_hear : Cond) ∈ gw := gw_mem (tb_mem 444 rfl) rfl
set_option maxRecDepth 20000 in
theorem tw_445 : (.instanceMethod y_CT_hear : Cond) ∈ gw := gw_mem (tb_mem 445 rfl) rfl
set_option maxRecDepth 20000 in
theorem tw_446 : (.selects "FarLink$Craft" y_CT_hear y_CT_hear : Cond) ∈ gw := gw_mem (tb_mem 446 rfl) rfl
set_option maxRecDepth 20000 in
theorem tw_447 : (.code y_CT_hear b_CT_hear 5 none : Cond) ∈ gw := gw_mem (tb_mem 447 rfl) rfl
set_option maxRecDepth 20000 in
theorem tw_448 : (.constantLong "FarLink$Craft" 36 (-1) : Cond) ∈ gw := gw_mem (tb_mem 448 rfl) rfl
set_option maxRecDepth 20000 in
theorem tw_450 : (.methodLink "FarLink$Craft" 42 y_CF_giveOn : Cond) ∈ gw := gw_mem (tb_mem 450 rfl) rfl
set_option maxRecDepth 20000 in
theorem tw_451 : (.instanceMethod y_CF_giveOn : Cond) ∈ gw := gw_mem (tb_mem 451 rfl) rfl
set_option maxRecDepth 20000 in
theorem tw_452 : (.selects "FarLink$CraftFrames" y_CF_giveOn y_CF_giveOn : Cond) ∈ gw := gw_mem (tb_mem 452 rfl) rfl
set_option maxRecDepth 20000 in
theorem tw_453 : (.code y_CF_giveOn b_CF_giveOn 3 (some .boolean) : Cond) ∈ gw := gw_mem (tb_mem 453 rfl) rfl
set_option maxRecDepth 20000 in
theorem tw_454 : (.methodLink "FarLink$CraftFrames" 15 y_CF_giveOnInOrder : Cond) ∈ gw := gw_mem (tb_mem 454 rfl) rfl
set_option maxRecDepth 20000 in
theorem tw_456 : (.instanceMethod y_CF_giveOnInOrder : Cond) ∈ gw := gw_mem (tb_mem 456 rfl) rfl
set_option maxRecDepth 20000 in
theorem tw_457 : (.code y_CF_giveOnInOrder b_CF_giveOnInOrder 3 (some .boolean) : Cond) ∈ gw := gw_mem (tb_mem 457 rfl) rfl
set_option maxRecDepth 20000 in
theorem tw_458 : (.methodLink "FarLink$Craft" 46 y_CR_hear : Cond) ∈ gw := gw_mem (tb_mem 458 rfl) rfl
set_option maxRecDepth 20000 in
theorem tw_459 : (.instanceMethod y_CR_hear : Cond) ∈ gw := gw_mem (tb_mem 459 rfl) rfl
set_option maxRecDepth 20000 in
theorem tw_460 : (.selects "FarLink$CraftRecord" y_CR_hear y_CR_hear : Cond) ∈ gw := gw_mem (tb_mem 460 rfl) rfl
set_option maxRecDepth 20000 in
theorem tw_461 : (.code y_CR_hear b_CR_hear 4 (some .boolean) : Cond) ∈ gw := gw_mem (tb_mem 461 rfl) rfl
set_option maxRecDepth 20000 in
theorem tw_462 : (.methodLink "FarLink$CraftRecord" 19 y_CR_looksAt : Cond) ∈ gw := gw_mem (tb_mem 462 rfl) rfl
set_option maxRecDepth 20000 in
theorem tw_464 : (.instanceMethod y_CR_looksAt : Cond) ∈ gw := gw_mem (tb_mem 464 rfl) rfl
set_option maxRecDepth 20000 in
theorem tw_465 : (.code y_CR_looksAt b_CR_looksAt 3 (some .boolean) : Cond) ∈ gw := gw_mem (tb_mem 465 rfl) rfl
set_option maxRecDepth 20000 in
theorem tw_466 : (.methodLink "FarLink$CraftRecord" 30 y_CR_hearOpen : Cond) ∈ gw := gw_mem (tb_mem 466 rfl) rfl
set_option maxRecDepth 20000 in
theorem tw_468 : (.instanceMethod y_CR_hearOpen : Cond) ∈ gw := gw_mem (tb_mem 468 rfl) rfl
set_option maxRecDepth 20000 in
theorem tw_469 : (.code y_CR_hearOpen b_CR_hearOpen 6 (some .boolean) : Cond) ∈ gw := gw_mem (tb_mem 469 rfl) rfl
set_option maxRecDepth 20000 in
theorem tw_470 : (.methodLink "FarLink$CraftRecord" 40 y_CR_endWith : Cond) ∈ gw := gw_mem (tb_mem 470 rfl) rfl
set_option maxRecDepth 20000 in
theorem tw_472 : (.instanceMethod y_CR_endWith : Cond) ∈ gw := gw_mem (tb_mem 472 rfl) rfl
set_option maxRecDepth 20000 in
theorem tw_473 : (.code y_CR_endWith b_CR_endWith 2 none : Cond) ∈ gw := gw_mem (tb_mem 473 rfl) rfl
set_option maxRecDepth 20000 in
theorem tw_474 : (.methodLink "FarLink$CraftRecord" 109 y_CR_tellFinished : Cond) ∈ gw := gw_mem (tb_mem 474 rfl) rfl
set_option maxRecDepth 20000 in
theorem tw_476 : (.instanceMethod y_CR_tellFinished : Cond) ∈ gw := gw_mem (tb_mem 476 rfl) rfl
set_option maxRecDepth 20000 in
theorem tw_477 : (.code y_CR_tellFinished b_CR_tellFinished 1 none : Cond) ∈ gw := gw_mem (tb_mem 477 rfl) rfl
set_option maxRecDepth 20000 in
theorem tw_478 : (.methodLink "FarLink$CraftRecord" 44 y_CR_takeMetadata : Cond) ∈ gw := gw_mem (tb_mem 478 rfl) rfl
set_option maxRecDepth 20000 in
theorem tw_480 : (.instanceMethod y_CR_takeMetadata : Cond) ∈ gw := gw_mem (tb_mem 480 rfl) rfl
set_option maxRecDepth 20000 in
theorem tw_481 : (.code y_CR_takeMetadata b_CR_takeMetadata 3 (some .boolean) : Cond) ∈ gw := gw_mem (tb_mem 481 rfl) rfl
set_option maxRecDepth 20000 in
theorem tw_482 : (.constant "FarLink$CraftRecord" 77 65536 : Cond) ∈ gw := gw_mem (tb_mem 482 rfl) rfl
set_option maxRecDepth 20000 in
theorem tw_483 : (.methodLink "FarLink$CraftRecord" 78 y_CR_has : Cond) ∈ gw := gw_mem (tb_mem 483 rfl) rfl
set_option maxRecDepth 20000 in
theorem tw_485 : (.instanceMethod y_CR_has : Cond) ∈ gw := gw_mem (tb_mem 485 rfl) rfl
set_option maxRecDepth 20000 in
theorem tw_486 : (.code y_CR_has b_CR_has 2 (some .boolean) : Cond) ∈ gw := gw_mem (tb_mem 486 rfl) rfl
set_option maxRecDepth 20000 in
theorem tw_488 : (.methodLink "FarLink$CraftRecord" 48 y_CR_takeData : Cond) ∈ gw := gw_mem (tb_mem 488 rfl) rfl
set_option maxRecDepth 20000 in
theorem tw_490 : (.instanceMethod y_CR_takeData : Cond) ∈ gw := gw_mem (tb_mem 490 rfl) rfl
set_option maxRecDepth 20000 in
theorem tw_491 : (.code y_CR_takeData b_CR_takeData 3 (some .boolean) : Cond) ∈ gw := gw_mem (tb_mem 491 rfl) rfl
set_option maxRecDepth 20000 in
theorem tw_492 : (.methodLink "FarLink$CraftRecord" 51 y_CR_takeEof : Cond) ∈ gw := gw_mem (tb_mem 492 rfl) rfl
set_option maxRecDepth 20000 in
theorem tw_494 : (.instanceMethod y_CR_takeEof : Cond) ∈ gw := gw_mem (tb_mem 494 rfl) rfl
set_option maxRecDepth 20000 in
theorem tw_495 : (.code y_CR_takeEof b_CR_takeEof 3 (some .boolean) : Cond) ∈ gw := gw_mem (tb_mem 495 rfl) rfl
set_option maxRecDepth 20000 in
theorem tw_496 : (.constant "FarLink$CraftRecord" 90 131072 : Cond) ∈ gw := gw_mem (tb_mem 496 rfl) rfl
set_option maxRecDepth 20000 in
theorem tw_497 : (.methodLink "FarLink$CraftRecord" 54 y_CR_lackingParts : Cond) ∈ gw := gw_mem (tb_mem 497 rfl) rfl
set_option maxRecDepth 20000 in
theorem tw_499 : (.instanceMethod y_CR_lackingParts : Cond) ∈ gw := gw_mem (tb_mem 499 rfl) rfl
set_option maxRecDepth 20000 in
theorem tw_500 : (.code y_CR_lackingParts b_CR_lackingParts 1 (some .int) : Cond) ∈ gw := gw_mem (tb_mem 500 rfl) rfl
set_option maxRecDepth 20000 in
theorem tw_501 : (.methodLink "FarLink$CraftRecord" 92 y_CR_missingParts : Cond) ∈ gw := gw_mem (tb_mem 501 rfl) rfl
set_option maxRecDepth 20000 in
theorem tw_502 : (.instanceMethod y_CR_missingParts : Cond) ∈ gw := gw_mem (tb_mem 502 rfl) rfl
set_option maxRecDepth 20000 in
theorem tw_503 : (.selects "FarLink$CraftRecord" y_CR_missingParts y_CR_missingParts : Cond) ∈ gw := gw_mem (tb_mem 503 rfl) rfl
set_option maxRecDepth 20000 in
theorem tw_504 : (.code y_CR_missingParts b_CR_missingParts 1 (some .int) : Cond) ∈ gw := gw_mem (tb_mem 504 rfl) rfl
set_option maxRecDepth 20000 in
theorem tw_505 : (.constant "FarLink$CraftRecord" 91 262143 : Cond) ∈ gw := gw_mem (tb_mem 505 rfl) rfl
set_option maxRecDepth 20000 in
theorem tw_506 : (.constant "FarLink$CraftRecord" 95 196608 : Cond) ∈ gw := gw_mem (tb_mem 506 rfl) rfl
set_option maxRecDepth 20000 in
theorem tw_509 : (.static y_FL_sumBelow : Cond) ∈ gw := gw_mem (tb_mem 509 rfl) rfl
set_option maxRecDepth 20000 in
theorem tw_510 : (.code y_FL_sumBelow b_FL_sumBelow 4 (some .int) : Cond) ∈ gw := gw_mem (tb_mem 510 rfl) rfl
set_option maxRecDepth 20000 in
theorem tw_511 : (.methodLink "FarLink$CraftRecord" 74 y_CR_askForParts : Cond) ∈ gw := gw_mem (tb_mem 511 rfl) rfl
set_option maxRecDepth 20000 in
theorem tw_513 : (.instanceMethod y_CR_askForParts : Cond) ∈ gw := gw_mem (tb_mem 513 rfl) rfl
set_option maxRecDepth 20000 in
theorem tw_514 : (.code y_CR_askForParts b_CR_askForParts 1 none : Cond) ∈ gw := gw_mem (tb_mem 514 rfl) rfl
set_option maxRecDepth 20000 in
theorem tw_515 : (.methodLink "FarLink$CraftRecord" 34 y_CR_becomeClosed : Cond) ∈ gw := gw_mem (tb_mem 515 rfl) rfl
set_option maxRecDepth 20000 in
theorem tw_517 : (.instanceMethod y_CR_becomeClosed : Cond) ∈ gw := gw_mem (tb_mem 517 rfl) rfl
set_option maxRecDepth 20000 in
theorem tw_518 : (.code y_CR_becomeClosed b_CR_becomeClosed 1 none : Cond) ∈ gw := gw_mem (tb_mem 518 rfl) rfl
set_option maxRecDepth 20000 in
theorem tw_519 : (.methodLink "FarLink$Craft" 50 y_CT_keep : Cond) ∈ gw := gw_mem (tb_mem 519 rfl) rfl
set_option maxRecDepth 20000 in
theorem tw_521 : (.instanceMethod y_CT_keep : Cond) ∈ gw := gw_mem (tb_mem 521 rfl) rfl
set_option maxRecDepth 20000 in
theorem tw_522 : (.code y_CT_keep b_CT_keep 3 none : Cond) ∈ gw := gw_mem (tb_mem 522 rfl) rfl
set_option maxRecDepth 20000 in
theorem tw_523 : (.methodLink "FarLink" 174 y_CT_stepClocks : Cond) ∈ gw := gw_mem (tb_mem 523 rfl) rfl
set_option maxRecDepth 20000 in
theorem tw_524 : (.instanceMethod y_CT_stepClocks : Cond) ∈ gw := gw_mem (tb_mem 524 rfl) rfl
set_option maxRecDepth 20000 in
theorem tw_525 : (.selects "FarLink$Craft" y_CT_stepClocks y_CT_stepClocks : Cond) ∈ gw := gw_mem (tb_mem 525 rfl) rfl
set_option maxRecDepth 20000 in
theorem tw_526 : (.code y_CT_stepClocks b_CT_stepClocks 2 none : Cond) ∈ gw := gw_mem (tb_mem 526 rfl) rfl
set_option maxRecDepth 20000 in
theorem tw_527 : (.methodLink "FarLink$Craft" 54 y_CR_stepClocks : Cond) ∈ gw := gw_mem (tb_mem 527 rfl) rfl
set_option maxRecDepth 20000 in
theorem tw_528 : (.instanceMethod y_CR_stepClocks : Cond) ∈ gw := gw_mem (tb_mem 528 rfl) rfl
set_option maxRecDepth 20000 in
theorem tw_529 : (.selects "FarLink$CraftRecord" y_CR_stepClocks y_CR_stepClocks : Cond) ∈ gw := gw_mem (tb_mem 529 rfl) rfl
set_option maxRecDepth 20000 in
theorem tw_530 : (.code y_CR_stepClocks b_CR_stepClocks 1 none : Cond) ∈ gw := gw_mem (tb_mem 530 rfl) rfl
set_option maxRecDepth 20000 in
theorem tw_531 : (.methodLink "FarLink$CraftRecord" 115 y_CR_stepOpen : Cond) ∈ gw := gw_mem (tb_mem 531 rfl) rfl
set_option maxRecDepth 20000 in
theorem tw_533 : (.instanceMethod y_CR_stepOpen : Cond) ∈ gw := gw_mem (tb_mem 533 rfl) rfl
set_option maxRecDepth 20000 in
theorem tw_534 : (.code y_CR_stepOpen b_CR_stepOpen 1 none : Cond) ∈ gw := gw_mem (tb_mem 534 rfl) rfl
set_option maxRecDepth 20000 in
theorem tw_535 : (.methodLink "FarLink$CraftRecord" 118 y_CR_stepEnding : Cond) ∈ gw := gw_mem (tb_mem 535 rfl) rfl
set_option maxRecDepth 20000 in
theorem tw_537 : (.instanceMethod y_CR_stepEnding : Cond) ∈ gw := gw_mem (tb_mem 537 rfl) rfl
set_option maxRecDepth 20000 in
theorem tw_538 : (.code y_CR_stepEnding b_CR_stepEnding 1 none : Cond) ∈ gw := gw_mem (tb_mem 538 rfl) rfl
set_option maxRecDepth 20000 in
theorem tw_539 : (.methodLink "FarLink" 177 y_CT_nextInfo : Cond) ∈ gw := gw_mem (tb_mem 539 rfl) rfl
set_option maxRecDepth 20000 in
theorem tw_540 : (.instanceMethod y_CT_nextInfo : Cond) ∈ gw := gw_mem (tb_mem 540 rfl) rfl
set_option maxRecDepth 20000 in
theorem tw_541 : (.selects "FarLink$Craft" y_CT_nextInfo y_CT_nextInfo : Cond) ∈ gw := gw_mem (tb_mem 541 rfl) rfl
set_option maxRecDepth 20000 in
theorem tw_542 : (.code y_CT_nextInfo b_CT_nextInfo 2 (some .long) : Cond) ∈ gw := gw_mem (tb_mem 542 rfl) rfl
set_option maxRecDepth 20000 in
theorem tw_543 : (.methodLink "FarLink$Craft" 57 y_CR_owesAny : Cond) ∈ gw := gw_mem (tb_mem 543 rfl) rfl
set_option maxRecDepth 20000 in
theorem tw_544 : (.instanceMethod y_CR_owesAny : Cond) ∈ gw := gw_mem (tb_mem 544 rfl) rfl
set_option maxRecDepth 20000 in
theorem tw_545 : (.selects "FarLink$CraftRecord" y_CR_owesAny y_CR_owesAny : Cond) ∈ gw := gw_mem (tb_mem 545 rfl) rfl
set_option maxRecDepth 20000 in
theorem tw_546 : (.code y_CR_owesAny b_CR_owesAny 1 (some .boolean) : Cond) ∈ gw := gw_mem (tb_mem 546 rfl) rfl
set_option maxRecDepth 20000 in
theorem tw_547 : (.methodLink "FarLink$Craft" 61 y_CR_payOne : Cond) ∈ gw := gw_mem (tb_mem 547 rfl) rfl
set_option maxRecDepth 20000 in
theorem tw_548 : (.instanceMethod y_CR_payOne : Cond) ∈ gw := gw_mem (tb_mem 548 rfl) rfl
set_option maxRecDepth 20000 in
theorem tw_549 : (.selects "FarLink$CraftRecord" y_CR_payOne y_CR_payOne : Cond) ∈ gw := gw_mem (tb_mem 549 rfl) rfl
set_option maxRecDepth 20000 in
theorem tw_550 : (.code y_CR_payOne b_CR_payOne 1 (some .long) : Cond) ∈ gw := gw_mem (tb_mem 550 rfl) rfl
set_option maxRecDepth 20000 in
theorem tw_551 : (.constantLong "FarLink$CraftRecord" 121 256 : Cond) ∈ gw := gw_mem (tb_mem 551 rfl) rfl
set_option maxRecDepth 20000 in
theorem tw_552 : (.constantLong "FarLink$CraftRecord" 123 512 : Cond) ∈ gw := gw_mem (tb_mem 552 rfl) rfl
set_option maxRecDepth 20000 in
theorem tw_553 : (.constantLong "FarLink$CraftRecord" 125 768 : Cond) ∈ gw := gw_mem (tb_mem 553 rfl) rfl
set_option maxRecDepth 20000 in
theorem tw_554 : (.methodLink "FarLink$Craft" 65 y_CF_reportBits : Cond) ∈ gw := gw_mem (tb_mem 554 rfl) rfl
set_option maxRecDepth 20000 in
theorem tw_555 : (.instanceMethod y_CF_reportBits : Cond) ∈ gw := gw_mem (tb_mem 555 rfl) rfl
set_option maxRecDepth 20000 in
theorem tw_556 : (.selects "FarLink$CraftFrames" y_CF_reportBits y_CF_reportBits : Cond) ∈ gw := gw_mem (tb_mem 556 rfl) rfl
set_option maxRecDepth 20000 in
theorem tw_557 : (.code y_CF_reportBits b_CF_reportBits 1 (some .int) : Cond) ∈ gw := gw_mem (tb_mem 557 rfl) rfl
set_option maxRecDepth 20000 in
theorem tw_558 : (.methodLink "FarLink" 181 y_WY_send : Cond) ∈ gw := gw_mem (tb_mem 558 rfl) rfl
set_option maxRecDepth 20000 in
theorem tw_559 : (.instanceMethod y_WY_send : Cond) ∈ gw := gw_mem (tb_mem 559 rfl) rfl
set_option maxRecDepth 20000 in
theorem tw_560 : (.selects "FarLink$Way" y_WY_send y_WY_send : Cond) ∈ gw := gw_mem (tb_mem 560 rfl) rfl
set_option maxRecDepth 20000 in
theorem tw_561 : (.code y_WY_send b_WY_send 6 none : Cond) ∈ gw := gw_mem (tb_mem 561 rfl) rfl
set_option maxRecDepth 20000 in
theorem tw_562 : (.methodLink "FarLink$Way" 37 y_UC_blockOf : Cond) ∈ gw := gw_mem (tb_mem 562 rfl) rfl
set_option maxRecDepth 20000 in
theorem tw_563 : (.static y_UC_blockOf : Cond) ∈ gw := gw_mem (tb_mem 563 rfl) rfl
set_option maxRecDepth 20000 in
theorem tw_564 : (.code y_UC_blockOf b_UC_blockOf 5 (some .long) : Cond) ∈ gw := gw_mem (tb_mem 564 rfl) rfl
set_option maxRecDepth 20000 in
theorem tw_565 : (.methodLink "FarLink$Way" 41 y_DC_blockOf : Cond) ∈ gw := gw_mem (tb_mem 565 rfl) rfl
set_option maxRecDepth 20000 in
theorem tw_566 : (.static y_DC_blockOf : Cond) ∈ gw := gw_mem (tb_mem 566 rfl) rfl
set_option maxRecDepth 20000 in
theorem tw_567 : (.code y_DC_blockOf b_DC_blockOf 4 (some .long) : Cond) ∈ gw := gw_mem (tb_mem 567 rfl) rfl
set_option maxRecDepth 20000 in
theorem tw_568 : (.methodLink "FarLink" 185 y_GR_hear : Cond) ∈ gw := gw_mem (tb_mem 568 rfl) rfl
set_option maxRecDepth 20000 in
theorem tw_569 : (.instanceMethod y_GR_hear : Cond) ∈ gw := gw_mem (tb_mem 569 rfl) rfl
set_option maxRecDepth 20000 in
theorem tw_570 : (.selects "FarLink$Ground" y_GR_hear y_GR_hear : Cond) ∈ gw := gw_mem (tb_mem 570 rfl) rfl
set_option maxRecDepth 20000 in
theorem tw_571 : (.code y_GR_hear b_GR_hear 4 none : Cond) ∈ gw := gw_mem (tb_mem 571 rfl) rfl
set_option maxRecDepth 20000 in
theorem tw_572 : (.constantLong "FarLink$Ground" 41 (-1) : Cond) ∈ gw := gw_mem (tb_mem 572 rfl) rfl
set_option maxRecDepth 20000 in
theorem tw_574 : (.constantLong "FarLink$Ground" 47 16 : Cond) ∈ gw := gw_mem (tb_mem 574 rfl) rfl
set_option maxRecDepth 20000 in
theorem tw_575 : (.constantLong "FarLink$Ground" 49 32 : Cond) ∈ gw := gw_mem (tb_mem 575 rfl) rfl
set_option maxRecDepth 20000 in
theorem tw_576 : (.methodLink "FarLink$Ground" 51 y_GF_hear : Cond) ∈ gw := gw_mem (tb_mem 576 rfl) rfl
set_option maxRecDepth 20000 in
theorem tw_577 : (.instanceMethod y_GF_hear : Cond) ∈ gw := gw_mem (tb_mem 577 rfl) rfl
set_option maxRecDepth 20000 in
theorem tw_578 : (.selects "FarLink$GroundFrames" y_GF_hear y_GF_hear : Cond) ∈ gw := gw_mem (tb_mem 578 rfl) rfl
set_option maxRecDepth 20000 in
theorem tw_579 : (.code y_GF_hear b_GF_hear 4 none : Cond) ∈ gw := gw_mem (tb_mem 579 rfl) rfl
set_option maxRecDepth 20000 in
theorem tw_580 : (.methodLink "FarLink$GroundFrames" 29 y_GF_hearActive : Cond) ∈ gw := gw_mem (tb_mem 580 rfl) rfl
set_option maxRecDepth 20000 in
theorem tw_582 : (.instanceMethod y_GF_hearActive : Cond) ∈ gw := gw_mem (tb_mem 582 rfl) rfl
set_option maxRecDepth 20000 in
theorem tw_583 : (.code y_GF_hearActive b_GF_hearActive 5 none : Cond) ∈ gw := gw_mem (tb_mem 583 rfl) rfl
set_option maxRecDepth 20000 in
theorem tw_584 : (.methodLink "FarLink$GroundFrames" 47 y_GF_alert : Cond) ∈ gw := gw_mem (tb_mem 584 rfl) rfl
set_option maxRecDepth 20000 in
theorem tw_586 : (.instanceMethod y_GF_alert : Cond) ∈ gw := gw_mem (tb_mem 586 rfl) rfl
set_option maxRecDepth 20000 in
theorem tw_587 : (.code y_GF_alert b_GF_alert 2 none : Cond) ∈ gw := gw_mem (tb_mem 587 rfl) rfl
set_option maxRecDepth 20000 in
theorem tw_588 : (.methodLink "FarLink$GroundFrames" 50 y_GF_confirm : Cond) ∈ gw := gw_mem (tb_mem 588 rfl) rfl
set_option maxRecDepth 20000 in
theorem tw_590 : (.instanceMethod y_GF_confirm : Cond) ∈ gw := gw_mem (tb_mem 590 rfl) rfl
set_option maxRecDepth 20000 in
theorem tw_591 : (.code y_GF_confirm b_GF_confirm 2 none : Cond) ∈ gw := gw_mem (tb_mem 591 rfl) rfl
set_option maxRecDepth 20000 in
theorem tw_592 : (.methodLink "FarLink$GroundFrames" 56 y_GF_recover : Cond) ∈ gw := gw_mem (tb_mem 592 rfl) rfl
set_option maxRecDepth 20000 in
theorem tw_594 : (.instanceMethod y_GF_recover : Cond) ∈ gw := gw_mem (tb_mem 594 rfl) rfl
set_option maxRecDepth 20000 in
theorem tw_595 : (.code y_GF_recover b_GF_recover 2 none : Cond) ∈ gw := gw_mem (tb_mem 595 rfl) rfl
set_option maxRecDepth 20000 in
theorem tw_596 : (.methodLink "FarLink$GroundFrames" 63 y_GF_markAll : Cond) ∈ gw := gw_mem (tb_mem 596 rfl) rfl
set_option maxRecDepth 20000 in
theorem tw_598 : (.instanceMethod y_GF_markAll : Cond) ∈ gw := gw_mem (tb_mem 598 rfl) rfl
set_option maxRecDepth 20000 in
theorem tw_599 : (.code y_GF_markAll b_GF_markAll 2 none : Cond) ∈ gw := gw_mem (tb_mem 599 rfl) rfl
set_option maxRecDepth 20000 in
theorem tw_600 : (.methodLink "FarLink$GroundFrames" 33 y_GF_direct : Cond) ∈ gw := gw_mem (tb_mem 600 rfl) rfl
set_option maxRecDepth 20000 in
theorem tw_602 : (.instanceMethod y_GF_direct : Cond) ∈ gw := gw_mem (tb_mem 602 rfl) rfl
set_option maxRecDepth 20000 in
theorem tw_603 : (.code y_GF_direct b_GF_direct 2 none : Cond) ∈ gw := gw_mem (tb_mem 603 rfl) rfl
set_option maxRecDepth 20000 in
theorem tw_604 : (.methodLink "FarLink$Ground" 55 y_GR_has : Cond) ∈ gw := gw_mem (tb_mem 604 rfl) rfl
set_option maxRecDepth 20000 in
theorem tw_605 : (.constant "FarLink$Ground" 59 16777215 : Cond) ∈ gw := gw_mem (tb_mem 605 rfl) rfl
set_option maxRecDepth 20000 in
theorem tw_606 : (.methodLink "FarLink$Ground" 60 y_TR_hear : Cond) ∈ gw := gw_mem (tb_mem 606 rfl) rfl
set_option maxRecDepth 20000 in
theorem tw_607 : (.instanceMethod y_TR_hear : Cond) ∈ gw := gw_mem (tb_mem 607 rfl) rfl
set_option maxRecDepth 20000 in
theorem tw_608 : (.selects "FarLink$Transaction" y_TR_hear y_TR_hear : Cond) ∈ gw := gw_mem (tb_mem 608 rfl) rfl
set_option maxRecDepth 20000 in
theorem tw_609 : (.code y_TR_hear b_TR_hear 3 none : Cond) ∈ gw := gw_mem (tb_mem 609 rfl) rfl
set_option maxRecDepth 20000 in
theorem tw_610 : (.methodLink "FarLink$Transaction" 65 y_TR_hearUnderWay : Cond) ∈ gw := gw_mem (tb_mem 610 rfl) rfl
set_option maxRecDepth 20000 in
theorem tw_612 : (.instanceMethod y_TR_hearUnderWay : Cond) ∈ gw := gw_mem (tb_mem 612 rfl) rfl
set_option maxRecDepth 20000 in
theorem tw_613 : (.code y_TR_hearUnderWay b_TR_hearUnderWay 3 none : Cond) ∈ gw := gw_mem (tb_mem 613 rfl) rfl
set_option maxRecDepth 20000 in
theorem tw_614 : (.methodLink "FarLink$Transaction" 70 y_TR_endWith : Cond) ∈ gw := gw_mem (tb_mem 614 rfl) rfl
set_option maxRecDepth 20000 in
theorem tw_616 : (.instanceMethod y_TR_endWith : Cond) ∈ gw := gw_mem (tb_mem 616 rfl) rfl
set_option maxRecDepth 20000 in
theorem tw_617 : (.code y_TR_endWith b_TR_endWith 2 none : Cond) ∈ gw := gw_mem (tb_mem 617 rfl) rfl
set_option maxRecDepth 20000 in
theorem tw_618 : (.constant "FarLink$Transaction" 69 262144 : Cond) ∈ gw := gw_mem (tb_mem 618 rfl) rfl
set_option maxRecDepth 20000 in
theorem tw_619 : (.constant "FarLink$Transaction" 74 65536 : Cond) ∈ gw := gw_mem (tb_mem 619 rfl) rfl
set_option maxRecDepth 20000 in
theorem tw_620 : (.methodLink "FarLink" 186 y_GR_stepClocks : Cond) ∈ gw := gw_mem (tb_mem 620 rfl) rfl
set_option maxRecDepth 20000 in
theorem tw_621 : (.instanceMethod y_GR_stepClocks : Cond) ∈ gw := gw_mem (tb_mem 621 rfl) rfl
set_option maxRecDepth 20000 in
theorem tw_622 : (.selects "FarLink$Ground" y_GR_stepClocks y_GR_stepClocks : Cond) ∈ gw := gw_mem (tb_mem 622 rfl) rfl
set_option maxRecDepth 20000 in
theorem tw_623 : (.code y_GR_stepClocks b_GR_stepClocks 2 none : Cond) ∈ gw := gw_mem (tb_mem 623 rfl) rfl
set_option maxRecDepth 20000 in
theorem tw_624 : (.methodLink "FarLink$Ground" 62 y_GF_stepClock : Cond) ∈ gw := gw_mem (tb_mem 624 rfl) rfl
set_option maxRecDepth 20000 in
theorem tw_625 : (.instanceMethod y_GF_stepClock : Cond) ∈ gw := gw_mem (tb_mem 625 rfl) rfl
set_option maxRecDepth 20000 in
theorem tw_626 : (.selects "FarLink$GroundFrames" y_GF_stepClock y_GF_stepClock : Cond) ∈ gw := gw_mem (tb_mem 626 rfl) rfl
set_option maxRecDepth 20000 in
theorem tw_627 : (.code y_GF_stepClock b_GF_stepClock 1 none : Cond) ∈ gw := gw_mem (tb_mem 627 rfl) rfl
set_option maxRecDepth 20000 in
theorem tw_628 : (.methodLink "FarLink$Ground" 65 y_TR_stepClocks : Cond) ∈ gw := gw_mem (tb_mem 628 rfl) rfl
set_option maxRecDepth 20000 in
theorem tw_629 : (.instanceMethod y_TR_stepClocks : Cond) ∈ gw := gw_mem (tb_mem 629 rfl) rfl
set_option maxRecDepth 20000 in
theorem tw_630 : (.selects "FarLink$Transaction" y_TR_stepClocks y_TR_stepClocks : Cond) ∈ gw := gw_mem (tb_mem 630 rfl) rfl
set_option maxRecDepth 20000 in
theorem tw_631 : (.code y_TR_stepClocks b_TR_stepClocks 1 none : Cond) ∈ gw := gw_mem (tb_mem 631 rfl) rfl
set_option maxRecDepth 20000 in
theorem tw_632 : (.methodLink "FarLink$Transaction" 78 y_TR_stepIdle : Cond) ∈ gw := gw_mem (tb_mem 632 rfl) rfl
set_option maxRecDepth 20000 in
theorem tw_634 : (.instanceMethod y_TR_stepIdle : Cond) ∈ gw := gw_mem (tb_mem 634 rfl) rfl
set_option maxRecDepth 20000 in
theorem tw_635 : (.code y_TR_stepIdle b_TR_stepIdle 1 none : Cond) ∈ gw := gw_mem (tb_mem 635 rfl) rfl
set_option maxRecDepth 20000 in
theorem tw_636 : (.methodLink "FarLink$Transaction" 81 y_TR_stepClock : Cond) ∈ gw := gw_mem (tb_mem 636 rfl) rfl
set_option maxRecDepth 20000 in
theorem tw_638 : (.instanceMethod y_TR_stepClock : Cond) ∈ gw := gw_mem (tb_mem 638 rfl) rfl
set_option maxRecDepth 20000 in
theorem tw_639 : (.code y_TR_stepClock b_TR_stepClock 1 none : Cond) ∈ gw := gw_mem (tb_mem 639 rfl) rfl
set_option maxRecDepth 20000 in
theorem tw_640 : (.methodLink "FarLink" 187 y_GR_nextInfo : Cond) ∈ gw := gw_mem (tb_mem 640 rfl) rfl
set_option maxRecDepth 20000 in
theorem tw_641 : (.instanceMethod y_GR_nextInfo : Cond) ∈ gw := gw_mem (tb_mem 641 rfl) rfl
set_option maxRecDepth 20000 in
theorem tw_642 : (.selects "FarLink$Ground" y_GR_nextInfo y_GR_nextInfo : Cond) ∈ gw := gw_mem (tb_mem 642 rfl) rfl
set_option maxRecDepth 20000 in
theorem tw_643 : (.code y_GR_nextInfo b_GR_nextInfo 6 (some .long) : Cond) ∈ gw := gw_mem (tb_mem 643 rfl) rfl
set_option maxRecDepth 20000 in
theorem tw_644 : (.methodLink "FarLink$Ground" 72 y_GF_sendDirective : Cond) ∈ gw := gw_mem (tb_mem 644 rfl) rfl
set_option maxRecDepth 20000 in
theorem tw_645 : (.instanceMethod y_GF_sendDirective : Cond) ∈ gw := gw_mem (tb_mem 645 rfl) rfl
set_option maxRecDepth 20000 in
theorem tw_646 : (.selects "FarLink$GroundFrames" y_GF_sendDirective y_GF_sendDirective : Cond) ∈ gw := gw_mem (tb_mem 646 rfl) rfl
set_option maxRecDepth 20000 in
theorem tw_647 : (.code y_GF_sendDirective b_GF_sendDirective 1 (some .long) : Cond) ∈ gw := gw_mem (tb_mem 647 rfl) rfl
set_option maxRecDepth 20000 in
theorem tw_648 : (.constantLong "FarLink$GroundFrames" 69 9007199254740992 : Cond) ∈ gw := gw_mem (tb_mem 648 rfl) rfl
set_option maxRecDepth 20000 in
theorem tw_649 : (.constantLong "FarLink$GroundFrames" 71 13510798882111488 : Cond) ∈ gw := gw_mem (tb_mem 649 rfl) rfl
set_option maxRecDepth 20000 in
theorem tw_650 : (.methodLink "FarLink$Ground" 76 y_GF_sendMarked : Cond) ∈ gw := gw_mem (tb_mem 650 rfl) rfl
set_option maxRecDepth 20000 in
theorem tw_651 : (.instanceMethod y_GF_sendMarked : Cond) ∈ gw := gw_mem (tb_mem 651 rfl) rfl
set_option maxRecDepth 20000 in
theorem tw_652 : (.selects "FarLink$GroundFrames" y_GF_sendMarked y_GF_sendMarked : Cond) ∈ gw := gw_mem (tb_mem 652 rfl) rfl
set_option maxRecDepth 20000 in
theorem tw_653 : (.code y_GF_sendMarked b_GF_sendMarked 3 (some .long) : Cond) ∈ gw := gw_mem (tb_mem 653 rfl) rfl
set_option maxRecDepth 20000 in
theorem tw_654 : (.constantLong "FarLink$GroundFrames" 73 (-1) : Cond) ∈ gw := gw_mem (tb_mem 654 rfl) rfl
set_option maxRecDepth 20000 in
theorem tw_655 : (.methodLink "FarLink$Ground" 79 y_GF_hasRoom : Cond) ∈ gw := gw_mem (tb_mem 655 rfl) rfl
set_option maxRecDepth 20000 in
theorem tw_656 : (.instanceMethod y_GF_hasRoom : Cond) ∈ gw := gw_mem (tb_mem 656 rfl) rfl
set_option maxRecDepth 20000 in
theorem tw_657 : (.selects "FarLink$GroundFrames" y_GF_hasRoom y_GF_hasRoom : Cond) ∈ gw := gw_mem (tb_mem 657 rfl) rfl
set_option maxRecDepth 20000 in
theorem tw_658 : (.code y_GF_hasRoom b_GF_hasRoom 1 (some .boolean) : Cond) ∈ gw := gw_mem (tb_mem 658 rfl) rfl
set_option maxRecDepth 20000 in
theorem tw_659 : (.methodLink "FarLink$Ground" 83 y_TR_hasToSend : Cond) ∈ gw := gw_mem (tb_mem 659 rfl) rfl
set_option maxRecDepth 20000 in
theorem tw_660 : (.instanceMethod y_TR_hasToSend : Cond) ∈ gw := gw_mem (tb_mem 660 rfl) rfl
set_option maxRecDepth 20000 in
theorem tw_661 : (.selects "FarLink$Transaction" y_TR_hasToSend y_TR_hasToSend : Cond) ∈ gw := gw_mem (tb_mem 661 rfl) rfl
set_option maxRecDepth 20000 in
theorem tw_662 : (.code y_TR_hasToSend b_TR_hasToSend 1 (some .boolean) : Cond) ∈ gw := gw_mem (tb_mem 662 rfl) rfl
set_option maxRecDepth 20000 in
theorem tw_663 : (.constantLong "FarLink$Ground" 89 4503599627370496 : Cond) ∈ gw := gw_mem (tb_mem 663 rfl) rfl
set_option maxRecDepth 20000 in
theorem tw_664 : (.methodLink "FarLink$Ground" 91 y_TR_nextPdu : Cond) ∈ gw := gw_mem (tb_mem 664 rfl) rfl
set_option maxRecDepth 20000 in
theorem tw_665 : (.instanceMethod y_TR_nextPdu : Cond) ∈ gw := gw_mem (tb_mem 665 rfl) rfl
set_option maxRecDepth 20000 in
theorem tw_666 : (.selects "FarLink$Transaction" y_TR_nextPdu y_TR_nextPdu : Cond) ∈ gw := gw_mem (tb_mem 666 rfl) rfl
set_option maxRecDepth 20000 in
theorem tw_667 : (.code y_TR_nextPdu b_TR_nextPdu 2 (some .long) : Cond) ∈ gw := gw_mem (tb_mem 667 rfl) rfl
set_option maxRecDepth 20000 in
theorem tw_668 : (.constant "FarLink$Transaction" 87 (-262145) : Cond) ∈ gw := gw_mem (tb_mem 668 rfl) rfl
set_option maxRecDepth 20000 in
theorem tw_669 : (.methodLink "FarLink$Transaction" 88 y_TR_pdu : Cond) ∈ gw := gw_mem (tb_mem 669 rfl) rfl
set_option maxRecDepth 20000 in
theorem tw_671 : (.instanceMethod y_TR_pdu : Cond) ∈ gw := gw_mem (tb_mem 671 rfl) rfl
set_option maxRecDepth 20000 in
theorem tw_672 : (.code y_TR_pdu b_TR_pdu 6 (some .long) : Cond) ∈ gw := gw_mem (tb_mem 672 rfl) rfl
set_option maxRecDepth 20000 in
theorem tw_673 : (.constantLong "FarLink$Transaction" 102 4294967295 : Cond) ∈ gw := gw_mem (tb_mem 673 rfl) rfl
set_option maxRecDepth 20000 in
theorem tw_674 : (.constant "FarLink$Transaction" 92 (-65537) : Cond) ∈ gw := gw_mem (tb_mem 674 rfl) rfl
set_option maxRecDepth 20000 in
theorem tw_675 : (.methodLink "FarLink$Transaction" 93 y_TR_leastWordDue : Cond) ∈ gw := gw_mem (tb_mem 675 rfl) rfl
set_option maxRecDepth 20000 in
theorem tw_677 : (.instanceMethod y_TR_leastWordDue : Cond) ∈ gw := gw_mem (tb_mem 677 rfl) rfl
set_option maxRecDepth 20000 in
theorem tw_678 : (.code y_TR_leastWordDue b_TR_leastWordDue 2 (some .int) : Cond) ∈ gw := gw_mem (tb_mem 678 rfl) rfl
set_option maxRecDepth 20000 in
theorem tw_679 : (.constant "FarLink$Transaction" 97 (-131073) : Cond) ∈ gw := gw_mem (tb_mem 679 rfl) rfl
set_option maxRecDepth 20000 in
theorem tw_681 : (.methodLink "FarLink$Ground" 94 y_GF_sendInOrder : Cond) ∈ gw := gw_mem (tb_mem 681 rfl) rfl
set_option maxRecDepth 20000 in
theorem tw_682 : (.instanceMethod y_GF_sendInOrder : Cond) ∈ gw := gw_mem (tb_mem 682 rfl) rfl
set_option maxRecDepth 20000 in
theorem tw_683 : (.selects "FarLink$GroundFrames" y_GF_sendInOrder y_GF_sendInOrder : Cond) ∈ gw := gw_mem (tb_mem 683 rfl) rfl
set_option maxRecDepth 20000 in
theorem tw_684 : (.code y_GF_sendInOrder b_GF_sendInOrder 4 (some .long) : Cond) ∈ gw := gw_mem (tb_mem 684 rfl) rfl
set_option maxRecDepth 20000 in
theorem tw_685 : (.constantLong "FarLink" 188 (-1) : Cond) ∈ gw := gw_mem (tb_mem 685 rfl) rfl
set_option maxRecDepth 20000 in
theorem tw_686 : (.methodLink "FarLinkLaw" 58 y_FL_time : Cond) ∈ gw := gw_mem (tb_mem 686 rfl) rfl
set_option maxRecDepth 20000 in
theorem tw_687 : (.instanceMethod y_FL_time : Cond) ∈ gw := gw_mem (tb_mem 687 rfl) rfl
set_option maxRecDepth 20000 in
theorem tw_688 : (.selects "FarLink" y_FL_time y_FL_time : Cond) ∈ gw := gw_mem (tb_mem 688 rfl) rfl
set_option maxRecDepth 20000 in
theorem tw_689 : (.code y_FL_time b_FL_time 1 (some .int) : Cond) ∈ gw := gw_mem (tb_mem 689 rfl) rfl
set_option maxRecDepth 20000 in
theorem tw_690 : (.methodLink "FarLinkLaw" 63 y_FL_outcome : Cond) ∈ gw := gw_mem (tb_mem 690 rfl) rfl
set_option maxRecDepth 20000 in
theorem tw_691 : (.instanceMethod y_FL_outcome : Cond) ∈ gw := gw_mem (tb_mem 691 rfl) rfl
set_option maxRecDepth 20000 in
theorem tw_692 : (.selects "FarLink" y_FL_outcome y_FL_outcome : Cond) ∈ gw := gw_mem (tb_mem 692 rfl) rfl
set_option maxRecDepth 20000 in
theorem tw_693 : (.code y_FL_outcome b_FL_outcome 3 (some .int) : Cond) ∈ gw := gw_mem (tb_mem 693 rfl) rfl
set_option maxRecDepth 20000 in
theorem tw_694 : (.methodLink "FarLink" 106 y_CR_result : Cond) ∈ gw := gw_mem (tb_mem 694 rfl) rfl
set_option maxRecDepth 20000 in
theorem tw_695 : (.instanceMethod y_CR_result : Cond) ∈ gw := gw_mem (tb_mem 695 rfl) rfl
set_option maxRecDepth 20000 in
theorem tw_696 : (.selects "FarLink$CraftRecord" y_CR_result y_CR_result : Cond) ∈ gw := gw_mem (tb_mem 696 rfl) rfl
set_option maxRecDepth 20000 in
theorem tw_697 : (.code y_CR_result b_CR_result 1 (some .int) : Cond) ∈ gw := gw_mem (tb_mem 697 rfl) rfl
set_option maxRecDepth 20000 in
theorem tw_698 : (.methodLink "FarLink" 111 y_TR_result : Cond) ∈ gw := gw_mem (tb_mem 698 rfl) rfl
set_option maxRecDepth 20000 in
theorem tw_699 : (.instanceMethod y_TR_result : Cond) ∈ gw := gw_mem (tb_mem 699 rfl) rfl
set_option maxRecDepth 20000 in
theorem tw_700 : (.selects "FarLink$Transaction" y_TR_result y_TR_result : Cond) ∈ gw := gw_mem (tb_mem 700 rfl) rfl
set_option maxRecDepth 20000 in
theorem tw_701 : (.code y_TR_result b_TR_result 1 (some .int) : Cond) ∈ gw := gw_mem (tb_mem 701 rfl) rfl
set_option maxRecDepth 20000 in
theorem tw_702 : (.methodLink "FarLinkLaw" 68 y_FL_taken : Cond) ∈ gw := gw_mem (tb_mem 702 rfl) rfl
set_option maxRecDepth 20000 in
theorem tw_703 : (.instanceMethod y_FL_taken : Cond) ∈ gw := gw_mem (tb_mem 703 rfl) rfl
set_option maxRecDepth 20000 in
theorem tw_704 : (.selects "FarLink" y_FL_taken y_FL_taken : Cond) ∈ gw := gw_mem (tb_mem 704 rfl) rfl
set_option maxRecDepth 20000 in
theorem tw_705 : (.code y_FL_taken b_FL_taken 3 (some .int) : Cond) ∈ gw := gw_mem (tb_mem 705 rfl) rfl
set_option maxRecDepth 20000 in
theorem tw_706 : (.methodLink "FarLinkLaw" 73 y_FL_missing : Cond) ∈ gw := gw_mem (tb_mem 706 rfl) rfl
set_option maxRecDepth 20000 in
theorem tw_707 : (.instanceMethod y_FL_missing : Cond) ∈ gw := gw_mem (tb_mem 707 rfl) rfl
set_option maxRecDepth 20000 in
theorem tw_708 : (.selects "FarLink" y_FL_missing y_FL_missing : Cond) ∈ gw := gw_mem (tb_mem 708 rfl) rfl
set_option maxRecDepth 20000 in
theorem tw_709 : (.code y_FL_missing b_FL_missing 2 (some .int) : Cond) ∈ gw := gw_mem (tb_mem 709 rfl) rfl
set_option maxRecDepth 20000 in
theorem tw_710 : (.methodLink "FarLink" 119 y_CR_missingParts : Cond) ∈ gw := gw_mem (tb_mem 710 rfl) rfl
set_option maxRecDepth 20000 in
theorem tw_711 : (.methodLink "FarLinkLaw" 77 y_FL_stored : Cond) ∈ gw := gw_mem (tb_mem 711 rfl) rfl
set_option maxRecDepth 20000 in
theorem tw_712 : (.instanceMethod y_FL_stored : Cond) ∈ gw := gw_mem (tb_mem 712 rfl) rfl
set_option maxRecDepth 20000 in
theorem tw_713 : (.selects "FarLink" y_FL_stored y_FL_stored : Cond) ∈ gw := gw_mem (tb_mem 713 rfl) rfl
set_option maxRecDepth 20000 in
theorem tw_714 : (.code y_FL_stored b_FL_stored 3 (some .int) : Cond) ∈ gw := gw_mem (tb_mem 714 rfl) rfl
set_option maxRecDepth 20000 in
theorem tw_715 : (.methodLink "FarLink" 122 y_CT_storedAt : Cond) ∈ gw := gw_mem (tb_mem 715 rfl) rfl
set_option maxRecDepth 20000 in
theorem tw_716 : (.instanceMethod y_CT_storedAt : Cond) ∈ gw := gw_mem (tb_mem 716 rfl) rfl
set_option maxRecDepth 20000 in
theorem tw_717 : (.selects "FarLink$Craft" y_CT_storedAt y_CT_storedAt : Cond) ∈ gw := gw_mem (tb_mem 717 rfl) rfl
set_option maxRecDepth 20000 in
theorem tw_718 : (.code y_CT_storedAt b_CT_storedAt 3 (some .int) : Cond) ∈ gw := gw_mem (tb_mem 718 rfl) rfl
set_option maxRecDepth 20000 in
theorem tw_720 : (.methodLink "FarLinkLaw" 81 y_FL_report : Cond) ∈ gw := gw_mem (tb_mem 720 rfl) rfl
set_option maxRecDepth 20000 in
theorem tw_721 : (.instanceMethod y_FL_report : Cond) ∈ gw := gw_mem (tb_mem 721 rfl) rfl
set_option maxRecDepth 20000 in
theorem tw_722 : (.selects "FarLink" y_FL_report y_FL_report : Cond) ∈ gw := gw_mem (tb_mem 722 rfl) rfl
set_option maxRecDepth 20000 in
theorem tw_723 : (.code y_FL_report b_FL_report 1 (some .int) : Cond) ∈ gw := gw_mem (tb_mem 723 rfl) rfl
set_option maxRecDepth 20000 in
theorem tw_724 : (.methodLink "FarLink" 129 y_CF_reportBits : Cond) ∈ gw := gw_mem (tb_mem 724 rfl) rfl
set_option maxRecDepth 20000 in
theorem tw_725 : (.methodLink "FarLinkLaw" 85 y_FL_window : Cond) ∈ gw := gw_mem (tb_mem 725 rfl) rfl
set_option maxRecDepth 20000 in
theorem tw_726 : (.instanceMethod y_FL_window : Cond) ∈ gw := gw_mem (tb_mem 726 rfl) rfl
set_option maxRecDepth 20000 in
theorem tw_727 : (.selects "FarLink" y_FL_window y_FL_window : Cond) ∈ gw := gw_mem (tb_mem 727 rfl) rfl
set_option maxRecDepth 20000 in
theorem tw_728 : (.code y_FL_window b_FL_window 1 (some .int) : Cond) ∈ gw := gw_mem (tb_mem 728 rfl) rfl
set_option maxRecDepth 20000 in
theorem tw_729 : (.methodLink "FarLink" 137 y_GF_summary : Cond) ∈ gw := gw_mem (tb_mem 729 rfl) rfl
set_option maxRecDepth 20000 in
theorem tw_730 : (.instanceMethod y_GF_summary : Cond) ∈ gw := gw_mem (tb_mem 730 rfl) rfl
set_option maxRecDepth 20000 in
theorem tw_731 : (.selects "FarLink$GroundFrames" y_GF_summary y_GF_summary : Cond) ∈ gw := gw_mem (tb_mem 731 rfl) rfl
set_option maxRecDepth 20000 in
theorem tw_732 : (.code y_GF_summary b_GF_summary 1 (some .int) : Cond) ∈ gw := gw_mem (tb_mem 732 rfl) rfl
set_option maxRecDepth 20000 in
theorem tw_733 : (.methodLink "FarLink$GroundFrames" 75 y_GF_countMarked : Cond) ∈ gw := gw_mem (tb_mem 733 rfl) rfl
set_option maxRecDepth 20000 in
theorem tw_734 : (.instanceMethod y_GF_countMarked : Cond) ∈ gw := gw_mem (tb_mem 734 rfl) rfl
set_option maxRecDepth 20000 in
theorem tw_735 : (.selects "FarLink$GroundFrames" y_GF_countMarked y_GF_countMarked : Cond) ∈ gw := gw_mem (tb_mem 735 rfl) rfl
set_option maxRecDepth 20000 in
theorem tw_736 : (.code y_GF_countMarked b_GF_countMarked 3 (some .int) : Cond) ∈ gw := gw_mem (tb_mem 736 rfl) rfl
set_option maxRecDepth 20000 in
theorem tw_737 : (.methodLink "FarLinkLaw" 89 y_FL_alerts : Cond) ∈ gw := gw_mem (tb_mem 737 rfl) rfl
set_option maxRecDepth 20000 in
theorem tw_738 : (.instanceMethod y_FL_alerts : Cond) ∈ gw := gw_mem (tb_mem 738 rfl) rfl
set_option maxRecDepth 20000 in
theorem tw_739 : (.selects "FarLink" y_FL_alerts y_FL_alerts : Cond) ∈ gw := gw_mem (tb_mem 739 rfl) rfl
set_option maxRecDepth 20000 in
theorem tw_740 : (.code y_FL_alerts b_FL_alerts 1 (some .int) : Cond) ∈ gw := gw_mem (tb_mem 740 rfl) rfl
set_option maxRecDepth 20000 in
theorem tw_741 : (.methodLink "FarLinkLaw" 93 y_FL_sent : Cond) ∈ gw := gw_mem (tb_mem 741 rfl) rfl
set_option maxRecDepth 20000 in
theorem tw_742 : (.instanceMethod y_FL_sent : Cond) ∈ gw := gw_mem (tb_mem 742 rfl) rfl
set_option maxRecDepth 20000 in
theorem tw_743 : (.selects "FarLink" y_FL_sent y_FL_sent : Cond) ∈ gw := gw_mem (tb_mem 743 rfl) rfl
set_option maxRecDepth 20000 in
theorem tw_744 : (.code y_FL_sent b_FL_sent 2 (some .int) : Cond) ∈ gw := gw_mem (tb_mem 744 rfl) rfl
set_option maxRecDepth 20000 in
theorem tw_745 : (.methodLink "FarLinkLaw" 98 y_FL_faults : Cond) ∈ gw := gw_mem (tb_mem 745 rfl) rfl
set_option maxRecDepth 20000 in
theorem tw_746 : (.instanceMethod y_FL_faults : Cond) ∈ gw := gw_mem (tb_mem 746 rfl) rfl
set_option maxRecDepth 20000 in
theorem tw_747 : (.selects "FarLink" y_FL_faults y_FL_faults : Cond) ∈ gw := gw_mem (tb_mem 747 rfl) rfl
set_option maxRecDepth 20000 in
theorem tw_748 : (.code y_FL_faults b_FL_faults 2 (some .int) : Cond) ∈ gw := gw_mem (tb_mem 748 rfl) rfl
set_option maxRecDepth 20000 in
theorem tw_749 : (.constant "FarLink" 151 65536 : Cond) ∈ gw := gw_mem (tb_mem 749 rfl) rfl
set_option maxRecDepth 20000 in
theorem tw_750 : (.methodLink "FarLinkLaw" 102 y_FL_encode : Cond) ∈ gw := gw_mem (tb_mem 750 rfl) rfl
set_option maxRecDepth 20000 in
theorem tw_751 : (.instanceMethod y_FL_encode : Cond) ∈ gw := gw_mem (tb_mem 751 rfl) rfl
set_option maxRecDepth 20000 in
theorem tw_752 : (.selects "FarLink" y_FL_encode y_FL_encode : Cond) ∈ gw := gw_mem (tb_mem 752 rfl) rfl
set_option maxRecDepth 20000 in
theorem tw_753 : (.code y_FL_encode b_FL_encode 4 (some .long) : Cond) ∈ gw := gw_mem (tb_mem 753 rfl) rfl
set_option maxRecDepth 20000 in
theorem tw_754 : (.methodLink "FarLink" 155 y_UC_blockOf : Cond) ∈ gw := gw_mem (tb_mem 754 rfl) rfl
set_option maxRecDepth 20000 in
theorem tw_755 : (.methodLink "FarLink" 161 y_DC_blockOf : Cond) ∈ gw := gw_mem (tb_mem 755 rfl) rfl
set_option maxRecDepth 20000 in
theorem tw_756 : (.methodLink "FarLinkLaw" 107 y_FL_decode : Cond) ∈ gw := gw_mem (tb_mem 756 rfl) rfl
set_option maxRecDepth 20000 in
theorem tw_757 : (.instanceMethod y_FL_decode : Cond) ∈ gw := gw_mem (tb_mem 757 rfl) rfl
set_option maxRecDepth 20000 in
theorem tw_758 : (.selects "FarLink" y_FL_decode y_FL_decode : Cond) ∈ gw := gw_mem (tb_mem 758 rfl) rfl
set_option maxRecDepth 20000 in
theorem tw_759 : (.code y_FL_decode b_FL_decode 4 (some .long) : Cond) ∈ gw := gw_mem (tb_mem 759 rfl) rfl
set_option maxRecDepth 20000 in
theorem tw_760 : (.methodLink "FarLink" 164 y_UC_infoOf : Cond) ∈ gw := gw_mem (tb_mem 760 rfl) rfl
set_option maxRecDepth 20000 in
theorem tw_761 : (.methodLink "FarLink" 167 y_DC_infoOf : Cond) ∈ gw := gw_mem (tb_mem 761 rfl) rfl
set_option maxRecDepth 20000 in
theorem tw_762 : (.methodLink "FarLinkLaw" 9 y_LW_cell : Cond) ∈ gw := gw_mem (tb_mem 762 rfl) rfl
set_option maxRecDepth 20000 in
theorem tw_763 : (.static y_LW_cell : Cond) ∈ gw := gw_mem (tb_mem 763 rfl) rfl
set_option maxRecDepth 20000 in
theorem tw_764 : (.code y_LW_cell b_LW_cell 2 (some .int) : Cond) ∈ gw := gw_mem (tb_mem 764 rfl) rfl
set_option maxRecDepth 20000 in
theorem tw_765 : (.classLink "FarLinkLaw" 18 "FarLinkModel" : Cond) ∈ gw := gw_mem (tb_mem 765 rfl) rfl
set_option maxRecDepth 20000 in
theorem tw_766 : (.instantiable "FarLinkModel" 57 : Cond) ∈ gw := gw_mem (tb_mem 766 rfl) rfl
set_option maxRecDepth 20000 in
theorem tw_767 : (.methodLink "FarLinkLaw" 20 y_MD_init : Cond) ∈ gw := gw_mem (tb_mem 767 rfl) rfl
set_option maxRecDepth 20000 in
theorem tw_768 : (.instanceMethod y_MD_init : Cond) ∈ gw := gw_mem (tb_mem 768 rfl) rfl
set_option maxRecDepth 20000 in
theorem tw_769 : (.code y_MD_init b_MD_init 2 none : Cond) ∈ gw := gw_mem (tb_mem 769 rfl) rfl
set_option maxRecDepth 20000 in
theorem tw_770 : (.methodLink "FarLinkModel" 1 ⟨"java/lang/Object", "<init>", "()V"⟩ : Cond) ∈ gw := gw_mem (tb_mem 770 rfl) rfl
set_option maxRecDepth 20000 in
theorem tw_771 : (.methodLink "FarLinkModel" 142 y_MD_product : Cond) ∈ gw := gw_mem (tb_mem 771 rfl) rfl
set_option maxRecDepth 20000 in
theorem tw_772 : (.static y_MD_product : Cond) ∈ gw := gw_mem (tb_mem 772 rfl) rfl
set_option maxRecDepth 20000 in
theorem tw_773 : (.code y_MD_product b_MD_product 11 (some .long) : Cond) ∈ gw := gw_mem (tb_mem 773 rfl) rfl
set_option maxRecDepth 20000 in
theorem tw_774 : (.methodLink "FarLinkModel" 158 y_MD_power : Cond) ∈ gw := gw_mem (tb_mem 774 rfl) rfl
set_option maxRecDepth 20000 in
theorem tw_775 : (.static y_MD_power : Cond) ∈ gw := gw_mem (tb_mem 775 rfl) rfl
set_option maxRecDepth 20000 in
theorem tw_776 : (.code y_MD_power b_MD_power 3 (some .int) : Cond) ∈ gw := gw_mem (tb_mem 776 rfl) rfl
set_option maxRecDepth 20000 in
theorem tw_777 : (.methodLink "FarLinkModel" 154 y_MD_times : Cond) ∈ gw := gw_mem (tb_mem 777 rfl) rfl
set_option maxRecDepth 20000 in
theorem tw_778 : (.static y_MD_times : Cond) ∈ gw := gw_mem (tb_mem 778 rfl) rfl
set_option maxRecDepth 20000 in
theorem tw_779 : (.code y_MD_times b_MD_times 4 (some .int) : Cond) ∈ gw := gw_mem (tb_mem 779 rfl) rfl
set_option maxRecDepth 20000 in
theorem tw_780 : (.constantLong "FarLinkModel" 162 15 : Cond) ∈ gw := gw_mem (tb_mem 780 rfl) rfl
set_option maxRecDepth 20000 in
theorem tw_781 : (.fieldLink "FarLinkModel" 136 "FarLinkModel" "delay" "I" : Cond) ∈ gw := gw_mem (tb_mem 781 rfl) rfl
set_option maxRecDepth 20000 in
theorem tw_782 : (.fieldLink "FarLinkModel" 139 "FarLinkModel" "span" "I" : Cond) ∈ gw := gw_mem (tb_mem 782 rfl) rfl
set_option maxRecDepth 20000 in
theorem tw_783 : (.fieldLink "FarLinkModel" 146 "FarLinkModel" "generator" "J" : Cond) ∈ gw := gw_mem (tb_mem 783 rfl) rfl
set_option maxRecDepth 20000 in
theorem tw_784 : (.fieldLink "FarLinkModel" 194 "FarLinkModel" "now" "I" : Cond) ∈ gw := gw_mem (tb_mem 784 rfl) rfl
set_option maxRecDepth 20000 in
theorem tw_785 : (.fieldLink "FarLinkModel" 267 "FarLinkModel" "changes" "I" : Cond) ∈ gw := gw_mem (tb_mem 785 rfl) rfl
set_option maxRecDepth 20000 in
theorem tw_786 : (.fieldLink "FarLinkModel" 7 "FarLinkModel" "block" "[J" : Cond) ∈ gw := gw_mem (tb_mem 786 rfl) rfl
set_option maxRecDepth 20000 in
theorem tw_787 : (.fieldLink "FarLinkModel" 13 "FarLinkModel" "heard" "[Z" : Cond) ∈ gw := gw_mem (tb_mem 787 rfl) rfl
set_option maxRecDepth 20000 in
theorem tw_788 : (.fieldLink "FarLinkModel" 17 "FarLinkModel" "noises" "[J" : Cond) ∈ gw := gw_mem (tb_mem 788 rfl) rfl
set_option maxRecDepth 20000 in
theorem tw_789 : (.fieldLink "FarLinkModel" 20 "FarLinkModel" "outages" "[I" : Cond) ∈ gw := gw_mem (tb_mem 789 rfl) rfl
set_option maxRecDepth 20000 in
theorem tw_790 : (.fieldLink "FarLinkModel" 24 "FarLinkModel" "sents" "[I" : Cond) ∈ gw := gw_mem (tb_mem 790 rfl) rfl
set_option maxRecDepth 20000 in
theorem tw_791 : (.fieldLink "FarLinkModel" 27 "FarLinkModel" "spoilt" "[I" : Cond) ∈ gw := gw_mem (tb_mem 791 rfl) rfl
set_option maxRecDepth 20000 in
theorem tw_792 : (.fieldLink "FarLinkModel" 30 "FarLinkModel" "mended" "[I" : Cond) ∈ gw := gw_mem (tb_mem 792 rfl) rfl
set_option maxRecDepth 20000 in
theorem tw_793 : (.fieldLink "FarLinkModel" 33 "FarLinkModel" "file" "[I" : Cond) ∈ gw := gw_mem (tb_mem 793 rfl) rfl
set_option maxRecDepth 20000 in
theorem tw_794 : (.fieldLink "FarLinkModel" 225 "FarLinkModel" "count" "I" : Cond) ∈ gw := gw_mem (tb_mem 794 rfl) rfl
set_option maxRecDepth 20000 in
theorem tw_795 : (.fieldLink "FarLinkModel" 36 "FarLinkModel" "words" "[I" : Cond) ∈ gw := gw_mem (tb_mem 795 rfl) rfl
set_option maxRecDepth 20000 in
theorem tw_796 : (.fieldLink "FarLinkModel" 39 "FarLinkModel" "size" "[I" : Cond) ∈ gw := gw_mem (tb_mem 796 rfl) rfl
set_option maxRecDepth 20000 in
theorem tw_797 : (.fieldLink "FarLinkModel" 42 "FarLinkModel" "title" "[I" : Cond) ∈ gw := gw_mem (tb_mem 797 rfl) rfl
set_option maxRecDepth 20000 in
theorem tw_798 : (.fieldLink "FarLinkModel" 45 "FarLinkModel" "loose" "[Z" : Cond) ∈ gw := gw_mem (tb_mem 798 rfl) rfl
set_option maxRecDepth 20000 in
theorem tw_799 : (.fieldLink "FarLinkModel" 48 "FarLinkModel" "ended" "[Z" : Cond) ∈ gw := gw_mem (tb_mem 799 rfl) rfl
set_option maxRecDepth 20000 in
theorem tw_800 : (.fieldLink "FarLinkModel" 51 "FarLinkModel" "result" "[I" : Cond) ∈ gw := gw_mem (tb_mem 800 rfl) rfl
set_option maxRecDepth 20000 in
theorem tw_801 : (.fieldLink "FarLinkModel" 54 "FarLinkModel" "due" "[I" : Cond) ∈ gw := gw_mem (tb_mem 801 rfl) rfl
set_option maxRecDepth 20000 in
theorem tw_802 : (.fieldLink "FarLinkModel" 57 "FarLinkModel" "cancelled" "[Z" : Cond) ∈ gw := gw_mem (tb_mem 802 rfl) rfl
set_option maxRecDepth 20000 in
theorem tw_803 : (.fieldLink "FarLinkModel" 60 "FarLinkModel" "answered" "[Z" : Cond) ∈ gw := gw_mem (tb_mem 803 rfl) rfl
set_option maxRecDepth 20000 in
theorem tw_804 : (.fieldLink "FarLinkModel" 63 "FarLinkModel" "suspended" "[Z" : Cond) ∈ gw := gw_mem (tb_mem 804 rfl) rfl
set_option maxRecDepth 20000 in
theorem tw_805 : (.fieldLink "FarLinkModel" 66 "FarLinkModel" "endSent" "[Z" : Cond) ∈ gw := gw_mem (tb_mem 805 rfl) rfl
set_option maxRecDepth 20000 in
theorem tw_806 : (.fieldLink "FarLinkModel" 69 "FarLinkModel" "tries" "[I" : Cond) ∈ gw := gw_mem (tb_mem 806 rfl) rfl
set_option maxRecDepth 20000 in
theorem tw_807 : (.fieldLink "FarLinkModel" 72 "FarLinkModel" "clock" "[I" : Cond) ∈ gw := gw_mem (tb_mem 807 rfl) rfl
set_option maxRecDepth 20000 in
theorem tw_808 : (.fieldLink "FarLinkModel" 75 "FarLinkModel" "idle" "[I" : Cond) ∈ gw := gw_mem (tb_mem 808 rfl) rfl
set_option maxRecDepth 20000 in
theorem tw_809 : (.fieldLink "FarLinkModel" 287 "FarLinkModel" "state" "I" : Cond) ∈ gw := gw_mem (tb_mem 809 rfl) rfl
set_option maxRecDepth 20000 in
theorem tw_810 : (.fieldLink "FarLinkModel" 299 "FarLinkModel" "next" "I" : Cond) ∈ gw := gw_mem (tb_mem 810 rfl) rfl
set_option maxRecDepth 20000 in
theorem tw_811 : (.fieldLink "FarLinkModel" 284 "FarLinkModel" "open" "I" : Cond) ∈ gw := gw_mem (tb_mem 811 rfl) rfl
set_option maxRecDepth 20000 in
theorem tw_812 : (.fieldLink "FarLinkModel" 78 "FarLinkModel" "frame" "[J" : Cond) ∈ gw := gw_mem (tb_mem 812 rfl) rfl
set_option maxRecDepth 20000 in
theorem tw_813 : (.fieldLink "FarLinkModel" 81 "FarLinkModel" "marked" "[Z" : Cond) ∈ gw := gw_mem (tb_mem 813 rfl) rfl
set_option maxRecDepth 20000 in
theorem tw_814 : (.fieldLink "FarLinkModel" 290 "FarLinkModel" "directive" "Z" : Cond) ∈ gw := gw_mem (tb_mem 814 rfl) rfl
set_option maxRecDepth 20000 in
theorem tw_815 : (.fieldLink "FarLinkModel" 84 "FarLinkModel" "tally" "I" : Cond) ∈ gw := gw_mem (tb_mem 815 rfl) rfl
set_option maxRecDepth 20000 in
theorem tw_816 : (.fieldLink "FarLinkModel" 293 "FarLinkModel" "recovering" "Z" : Cond) ∈ gw := gw_mem (tb_mem 816 rfl) rfl
set_option maxRecDepth 20000 in
theorem tw_817 : (.fieldLink "FarLinkModel" 296 "FarLinkModel" "frameClock" "I" : Cond) ∈ gw := gw_mem (tb_mem 817 rfl) rfl
set_option maxRecDepth 20000 in
theorem tw_818 : (.fieldLink "FarLinkModel" 281 "FarLinkModel" "alertCount" "I" : Cond) ∈ gw := gw_mem (tb_mem 818 rfl) rfl
set_option maxRecDepth 20000 in
theorem tw_819 : (.fieldLink "FarLinkModel" 238 "FarLinkModel" "expected" "I" : Cond) ∈ gw := gw_mem (tb_mem 819 rfl) rfl
set_option maxRecDepth 20000 in
theorem tw_820 : (.fieldLink "FarLinkModel" 234 "FarLinkModel" "locked" "Z" : Cond) ∈ gw := gw_mem (tb_mem 820 rfl) rfl
set_option maxRecDepth 20000 in
theorem tw_821 : (.fieldLink "FarLinkModel" 241 "FarLinkModel" "again" "Z" : Cond) ∈ gw := gw_mem (tb_mem 821 rfl) rfl
set_option maxRecDepth 20000 in
theorem tw_822 : (.fieldLink "FarLinkModel" 88 "FarLinkModel" "stage" "[I" : Cond) ∈ gw := gw_mem (tb_mem 822 rfl) rfl
set_option maxRecDepth 20000 in
theorem tw_823 : (.fieldLink "FarLinkModel" 91 "FarLinkModel" "condition" "[I" : Cond) ∈ gw := gw_mem (tb_mem 823 rfl) rfl
set_option maxRecDepth 20000 in
theorem tw_824 : (.fieldLink "FarLinkModel" 94 "FarLinkModel" "got" "[I" : Cond) ∈ gw := gw_mem (tb_mem 824 rfl) rfl
set_option maxRecDepth 20000 in
theorem tw_825 : (.fieldLink "FarLinkModel" 97 "FarLinkModel" "word" "[I" : Cond) ∈ gw := gw_mem (tb_mem 825 rfl) rfl
set_option maxRecDepth 20000 in
theorem tw_826 : (.fieldLink "FarLinkModel" 100 "FarLinkModel" "metaLength" "[I" : Cond) ∈ gw := gw_mem (tb_mem 826 rfl) rfl
set_option maxRecDepth 20000 in
theorem tw_827 : (.fieldLink "FarLinkModel" 103 "FarLinkModel" "metaName" "[I" : Cond) ∈ gw := gw_mem (tb_mem 827 rfl) rfl
set_option maxRecDepth 20000 in
theorem tw_828 : (.fieldLink "FarLinkModel" 106 "FarLinkModel" "endLength" "[I" : Cond) ∈ gw := gw_mem (tb_mem 828 rfl) rfl
set_option maxRecDepth 20000 in
theorem tw_829 : (.fieldLink "FarLinkModel" 109 "FarLinkModel" "endSum" "[I" : Cond) ∈ gw := gw_mem (tb_mem 829 rfl) rfl
set_option maxRecDepth 20000 in
theorem tw_830 : (.fieldLink "FarLinkModel" 112 "FarLinkModel" "craftTries" "[I" : Cond) ∈ gw := gw_mem (tb_mem 830 rfl) rfl
set_option maxRecDepth 20000 in
theorem tw_831 : (.fieldLink "FarLinkModel" 115 "FarLinkModel" "craftClock" "[I" : Cond) ∈ gw := gw_mem (tb_mem 831 rfl) rfl
set_option maxRecDepth 20000 in
theorem tw_832 : (.fieldLink "FarLinkModel" 118 "FarLinkModel" "craftIdle" "[I" : Cond) ∈ gw := gw_mem (tb_mem 832 rfl) rfl
set_option maxRecDepth 20000 in
theorem tw_833 : (.fieldLink "FarLinkModel" 121 "FarLinkModel" "oweGot" "[Z" : Cond) ∈ gw := gw_mem (tb_mem 833 rfl) rfl
set_option maxRecDepth 20000 in
theorem tw_834 : (.fieldLink "FarLinkModel" 124 "FarLinkModel" "oweLack" "[Z" : Cond) ∈ gw := gw_mem (tb_mem 834 rfl) rfl
set_option maxRecDepth 20000 in
theorem tw_835 : (.fieldLink "FarLinkModel" 127 "FarLinkModel" "oweFinished" "[Z" : Cond) ∈ gw := gw_mem (tb_mem 835 rfl) rfl
set_option maxRecDepth 20000 in
theorem tw_836 : (.fieldLink "FarLinkModel" 130 "FarLinkModel" "storeLength" "[I" : Cond) ∈ gw := gw_mem (tb_mem 836 rfl) rfl
set_option maxRecDepth 20000 in
theorem tw_837 : (.fieldLink "FarLinkModel" 133 "FarLinkModel" "store" "[I" : Cond) ∈ gw := gw_mem (tb_mem 837 rfl) rfl
set_option maxRecDepth 20000 in
theorem tw_838 : (.laysFinal "FarLinkModel" "FarLinkModel" "delay" "I" : Cond) ∈ gw := gw_mem (tb_mem 838 rfl) rfl
set_option maxRecDepth 20000 in
theorem tw_840 : (.laysFinal "FarLinkModel" "FarLinkModel" "span" "I" : Cond) ∈ gw := gw_mem (tb_mem 840 rfl) rfl
set_option maxRecDepth 20000 in
theorem tw_842 : (.laysFinal "FarLinkModel" "FarLinkModel" "generator" "J" : Cond) ∈ gw := gw_mem (tb_mem 842 rfl) rfl
set_option maxRecDepth 20000 in
theorem tw_844 : (.lays "FarLinkModel" "FarLinkModel" "now" "I" : Cond) ∈ gw := gw_mem (tb_mem 844 rfl) rfl
set_option maxRecDepth 20000 in
theorem tw_846 : (.lays "FarLinkModel" "FarLinkModel" "changes" "I" : Cond) ∈ gw := gw_mem (tb_mem 846 rfl) rfl
set_option maxRecDepth 20000 in
theorem tw_848 : (.laysFinal "FarLinkModel" "FarLinkModel" "block" "[J" : Cond) ∈ gw := gw_mem (tb_mem 848 rfl) rfl
set_option maxRecDepth 20000 in
theorem tw_850 : (.laysFinal "FarLinkModel" "FarLinkModel" "heard" "[Z" : Cond) ∈ gw := gw_mem (tb_mem 850 rfl) rfl
set_option maxRecDepth 20000 in
theorem tw_852 : (.laysFinal "FarLinkModel" "FarLinkModel" "noises" "[J" : Cond) ∈ gw := gw_mem (tb_mem 852 rfl) rfl
set_option maxRecDepth 20000 in
theorem tw_854 : (.laysFinal "FarLinkModel" "FarLinkModel" "outages" "[I" : Cond) ∈ gw := gw_mem (tb_mem 854 rfl) rfl
set_option maxRecDepth 20000 in
theorem tw_856 : (.laysFinal "FarLinkModel" "FarLinkModel" "sents" "[I" : Cond) ∈ gw := gw_mem (tb_mem 856 rfl) rfl
set_option maxRecDepth 20000 in
theorem tw_858 : (.laysFinal "FarLinkModel" "FarLinkModel" "spoilt" "[I" : Cond) ∈ gw := gw_mem (tb_mem 858 rfl) rfl
set_option maxRecDepth 20000 in
theorem tw_860 : (.laysFinal "FarLinkModel" "FarLinkModel" "mended" "[I" : Cond) ∈ gw := gw_mem (tb_mem 860 rfl) rfl
set_option maxRecDepth 20000 in
theorem tw_862 : (.laysFinal "FarLinkModel" "FarLinkModel" "file" "[I" : Cond) ∈ gw := gw_mem (tb_mem 862 rfl) rfl
set_option maxRecDepth 20000 in
theorem tw_864 : (.lays "FarLinkModel" "FarLinkModel" "count" "I" : Cond) ∈ gw := gw_mem (tb_mem 864 rfl) rfl
set_option maxRecDepth 20000 in
theorem tw_866 : (.laysFinal "FarLinkModel" "FarLinkModel" "words" "[I" : Cond) ∈ gw := gw_mem (tb_mem 866 rfl) rfl
set_option maxRecDepth 20000 in
theorem tw_868 : (.laysFinal "FarLinkModel" "FarLinkModel" "size" "[I" : Cond) ∈ gw := gw_mem (tb_mem 868 rfl) rfl
set_option maxRecDepth 20000 in
theorem tw_870 : (.laysFinal "FarLinkModel" "FarLinkModel" "title" "[I" : Cond) ∈ gw := gw_mem (tb_mem 870 rfl) rfl
set_option maxRecDepth 20000 in
theorem tw_872 : (.laysFinal "FarLinkModel" "FarLinkModel" "loose" "[Z" : Cond) ∈ gw := gw_mem (tb_mem 872 rfl) rfl
set_option maxRecDepth 20000 in
theorem tw_874 : (.laysFinal "FarLinkModel" "FarLinkModel" "ended" "[Z" : Cond) ∈ gw := gw_mem (tb_mem 874 rfl) rfl
set_option maxRecDepth 20000 in
theorem tw_876 : (.laysFinal "FarLinkModel" "FarLinkModel" "result" "[I" : Cond) ∈ gw := gw_mem (tb_mem 876 rfl) rfl
set_option maxRecDepth 20000 in
theorem tw_878 : (.laysFinal "FarLinkModel" "FarLinkModel" "due" "[I" : Cond) ∈ gw := gw_mem (tb_mem 878 rfl) rfl
set_option maxRecDepth 20000 in
theorem tw_880 : (.laysFinal "FarLinkModel" "FarLinkModel" "cancelled" "[Z" : Cond) ∈ gw := gw_mem (tb_mem 880 rfl) rfl
set_option maxRecDepth 20000 in
theorem tw_882 : (.laysFinal "FarLinkModel" "FarLinkModel" "answered" "[Z" : Cond) ∈ gw := gw_mem (tb_mem 882 rfl) rfl
set_option maxRecDepth 20000 in
theorem tw_884 : (.laysFinal "FarLinkModel" "FarLinkModel" "suspended" "[Z" : Cond) ∈ gw := gw_mem (tb_mem 884 rfl) rfl
set_option maxRecDepth 20000 in
theorem tw_886 : (.laysFinal "FarLinkModel" "FarLinkModel" "endSent" "[Z" : Cond) ∈ gw := gw_mem (tb_mem 886 rfl) rfl
set_option maxRecDepth 20000 in
theorem tw_888 : (.laysFinal "FarLinkModel" "FarLinkModel" "tries" "[I" : Cond) ∈ gw := gw_mem (tb_mem 888 rfl) rfl
set_option maxRecDepth 20000 in
theorem tw_890 : (.laysFinal "FarLinkModel" "FarLinkModel" "clock" "[I" : Cond) ∈ gw := gw_mem (tb_mem 890 rfl) rfl
set_option maxRecDepth 20000 in
theorem tw_892 : (.laysFinal "FarLinkModel" "FarLinkModel" "idle" "[I" : Cond) ∈ gw := gw_mem (tb_mem 892 rfl) rfl
set_option maxRecDepth 20000 in
theorem tw_894 : (.lays "FarLinkModel" "FarLinkModel" "state" "I" : Cond) ∈ gw := gw_mem (tb_mem 894 rfl) rfl
set_option maxRecDepth 20000 in
theorem tw_896 : (.lays "FarLinkModel" "FarLinkModel" "next" "I" : Cond) ∈ gw := gw_mem (tb_mem 896 rfl) rfl
set_option maxRecDepth 20000 in
theorem tw_898 : (.lays "FarLinkModel" "FarLinkModel" "open" "I" : Cond) ∈ gw := gw_mem (tb_mem 898 rfl) rfl
set_option maxRecDepth 20000 in
theorem tw_900 : (.laysFinal "FarLinkModel" "FarLinkModel" "frame" "[J" : Cond) ∈ gw := gw_mem (tb_mem 900 rfl) rfl
set_option maxRecDepth 20000 in
theorem tw_902 : (.laysFinal "FarLinkModel" "FarLinkModel" "marked" "[Z" : Cond) ∈ gw := gw_mem (tb_mem 902 rfl) rfl
set_option maxRecDepth 20000 in
theorem tw_904 : (.lays "FarLinkModel" "FarLinkModel" "directive" "Z" : Cond) ∈ gw := gw_mem (tb_mem 904 rfl) rfl
set_option maxRecDepth 20000 in
theorem tw_906 : (.lays "FarLinkModel" "FarLinkModel" "tally" "I" : Cond) ∈ gw := gw_mem (tb_mem 906 rfl) rfl
set_option maxRecDepth 20000 in
theorem tw_908 : (.lays "FarLinkModel" "FarLinkModel" "recovering" "Z" : Cond) ∈ gw := gw_mem (tb_mem 908 rfl) rfl
set_option maxRecDepth 20000 in
theorem tw_910 : (.lays "FarLinkModel" "FarLinkModel" "frameClock" "I" : Cond) ∈ gw := gw_mem (tb_mem 910 rfl) rfl
set_option maxRecDepth 20000 in
theorem tw_912 : (.lays "FarLinkModel" "FarLinkModel" "alertCount" "I" : Cond) ∈ gw := gw_mem (tb_mem 912 rfl) rfl
set_option maxRecDepth 20000 in
theorem tw_914 : (.lays "FarLinkModel" "FarLinkModel" "expected" "I" : Cond) ∈ gw := gw_mem (tb_mem 914 rfl) rfl
set_option maxRecDepth 20000 in
theorem tw_916 : (.lays "FarLinkModel" "FarLinkModel" "locked" "Z" : Cond) ∈ gw := gw_mem (tb_mem 916 rfl) rfl
set_option maxRecDepth 20000 in
theorem tw_918 : (.lays "FarLinkModel" "FarLinkModel" "again" "Z" : Cond) ∈ gw := gw_mem (tb_mem 918 rfl) rfl
set_option maxRecDepth 20000 in
theorem tw_920 : (.laysFinal "FarLinkModel" "FarLinkModel" "stage" "[I" : Cond) ∈ gw := gw_mem (tb_mem 920 rfl) rfl
set_option maxRecDepth 20000 in
theorem tw_922 : (.laysFinal "FarLinkModel" "FarLinkModel" "condition" "[I" : Cond) ∈ gw := gw_mem (tb_mem 922 rfl) rfl
set_option maxRecDepth 20000 in
theorem tw_924 : (.laysFinal "FarLinkModel" "FarLinkModel" "got" "[I" : Cond) ∈ gw := gw_mem (tb_mem 924 rfl) rfl
set_option maxRecDepth 20000 in
theorem tw_926 : (.laysFinal "FarLinkModel" "FarLinkModel" "word" "[I" : Cond) ∈ gw := gw_mem (tb_mem 926 rfl) rfl
set_option maxRecDepth 20000 in
theorem tw_928 : (.laysFinal "FarLinkModel" "FarLinkModel" "metaLength" "[I" : Cond) ∈ gw := gw_mem (tb_mem 928 rfl) rfl
set_option maxRecDepth 20000 in
theorem tw_930 : (.laysFinal "FarLinkModel" "FarLinkModel" "metaName" "[I" : Cond) ∈ gw := gw_mem (tb_mem 930 rfl) rfl
set_option maxRecDepth 20000 in
theorem tw_932 : (.laysFinal "FarLinkModel" "FarLinkModel" "endLength" "[I" : Cond) ∈ gw := gw_mem (tb_mem 932 rfl) rfl
set_option maxRecDepth 20000 in
theorem tw_934 : (.laysFinal "FarLinkModel" "FarLinkModel" "endSum" "[I" : Cond) ∈ gw := gw_mem (tb_mem 934 rfl) rfl
set_option maxRecDepth 20000 in
theorem tw_936 : (.laysFinal "FarLinkModel" "FarLinkModel" "craftTries" "[I" : Cond) ∈ gw := gw_mem (tb_mem 936 rfl) rfl
set_option maxRecDepth 20000 in
theorem tw_938 : (.laysFinal "FarLinkModel" "FarLinkModel" "craftClock" "[I" : Cond) ∈ gw := gw_mem (tb_mem 938 rfl) rfl
set_option maxRecDepth 20000 in
theorem tw_940 : (.laysFinal "FarLinkModel" "FarLinkModel" "craftIdle" "[I" : Cond) ∈ gw := gw_mem (tb_mem 940 rfl) rfl
set_option maxRecDepth 20000 in
theorem tw_942 : (.laysFinal "FarLinkModel" "FarLinkModel" "oweGot" "[Z" : Cond) ∈ gw := gw_mem (tb_mem 942 rfl) rfl
set_option maxRecDepth 20000 in
theorem tw_944 : (.laysFinal "FarLinkModel" "FarLinkModel" "oweLack" "[Z" : Cond) ∈ gw := gw_mem (tb_mem 944 rfl) rfl
set_option maxRecDepth 20000 in
theorem tw_946 : (.laysFinal "FarLinkModel" "FarLinkModel" "oweFinished" "[Z" : Cond) ∈ gw := gw_mem (tb_mem 946 rfl) rfl
set_option maxRecDepth 20000 in
theorem tw_948 : (.laysFinal "FarLinkModel" "FarLinkModel" "storeLength" "[I" : Cond) ∈ gw := gw_mem (tb_mem 948 rfl) rfl
set_option maxRecDepth 20000 in
theorem tw_950 : (.laysFinal "FarLinkModel" "FarLinkModel" "store" "[I" : Cond) ∈ gw := gw_mem (tb_mem 950 rfl) rfl
set_option maxRecDepth 20000 in
theorem tw_953 : (.methodLink "FarLinkLaw" 106 y_MD_encode : Cond) ∈ gw := gw_mem (tb_mem 953 rfl) rfl
set_option maxRecDepth 20000 in
theorem tw_954 : (.instanceMethod y_MD_encode : Cond) ∈ gw := gw_mem (tb_mem 954 rfl) rfl
set_option maxRecDepth 20000 in
theorem tw_955 : (.selects "FarLinkModel" y_MD_encode y_MD_encode : Cond) ∈ gw := gw_mem (tb_mem 955 rfl) rfl
set_option maxRecDepth 20000 in
theorem tw_956 : (.code y_MD_encode b_MD_encode 13 (some .long) : Cond) ∈ gw := gw_mem (tb_mem 956 rfl) rfl
set_option maxRecDepth 20000 in
theorem tw_957 : (.constantLong "FarLinkModel" 164 72057594037927935 : Cond) ∈ gw := gw_mem (tb_mem 957 rfl) rfl
set_option maxRecDepth 20000 in
theorem tw_958 : (.methodLink "FarLinkModel" 166 y_MD_upRest : Cond) ∈ gw := gw_mem (tb_mem 958 rfl) rfl
set_option maxRecDepth 20000 in
theorem tw_959 : (.static y_MD_upRest : Cond) ∈ gw := gw_mem (tb_mem 959 rfl) rfl
set_option maxRecDepth 20000 in
theorem tw_960 : (.code y_MD_upRest b_MD_upRest 5 (some .int) : Cond) ∈ gw := gw_mem (tb_mem 960 rfl) rfl
set_option maxRecDepth 20000 in
theorem tw_961 : (.constantLong "FarLinkModel" 150 127 : Cond) ∈ gw := gw_mem (tb_mem 961 rfl) rfl
set_option maxRecDepth 20000 in
theorem tw_962 : (.constantLong "FarLinkModel" 152 197 : Cond) ∈ gw := gw_mem (tb_mem 962 rfl) rfl
set_option maxRecDepth 20000 in
theorem tw_963 : (.constantLong "FarLinkModel" 170 17592186044415 : Cond) ∈ gw := gw_mem (tb_mem 963 rfl) rfl
set_option maxRecDepth 20000 in
theorem tw_964 : (.methodLink "FarLinkLaw" 110 y_MD_decode : Cond) ∈ gw := gw_mem (tb_mem 964 rfl) rfl
set_option maxRecDepth 20000 in
theorem tw_965 : (.instanceMethod y_MD_decode : Cond) ∈ gw := gw_mem (tb_mem 965 rfl) rfl
set_option maxRecDepth 20000 in
theorem tw_966 : (.selects "FarLinkModel" y_MD_decode y_MD_decode : Cond) ∈ gw := gw_mem (tb_mem 966 rfl) rfl
set_option maxRecDepth 20000 in
theorem tw_967 : (.code y_MD_decode b_MD_decode 6 (some .long) : Cond) ∈ gw := gw_mem (tb_mem 967 rfl) rfl
set_option maxRecDepth 20000 in
theorem tw_968 : (.constantLong "FarLinkModel" 172 9223372036854775807 : Cond) ∈ gw := gw_mem (tb_mem 968 rfl) rfl
set_option maxRecDepth 20000 in
theorem tw_969 : (.constantLong "FarLinkModel" 174 1152921504606846975 : Cond) ∈ gw := gw_mem (tb_mem 969 rfl) rfl
set_option maxRecDepth 20000 in
theorem tw_970 : (.methodLink "FarLinkModel" 176 y_MD_decodeUp : Cond) ∈ gw := gw_mem (tb_mem 970 rfl) rfl
set_option maxRecDepth 20000 in
theorem tw_971 : (.static y_MD_decodeUp : Cond) ∈ gw := gw_mem (tb_mem 971 rfl) rfl
set_option maxRecDepth 20000 in
theorem tw_972 : (.code y_MD_decodeUp b_MD_decodeUp 5 (some .long) : Cond) ∈ gw := gw_mem (tb_mem 972 rfl) rfl
set_option maxRecDepth 20000 in
theorem tw_973 : (.constantLong "FarLinkModel" 183 (-1) : Cond) ∈ gw := gw_mem (tb_mem 973 rfl) rfl
set_option maxRecDepth 20000 in
theorem tw_974 : (.methodLink "FarLinkModel" 180 y_MD_decodeDown : Cond) ∈ gw := gw_mem (tb_mem 974 rfl) rfl
set_option maxRecDepth 20000 in
theorem tw_975 : (.static y_MD_decodeDown : Cond) ∈ gw := gw_mem (tb_mem 975 rfl) rfl
set_option maxRecDepth 20000 in
theorem tw_976 : (.code y_MD_decodeDown b_MD_decodeDown 9 (some .long) : Cond) ∈ gw := gw_mem (tb_mem 976 rfl) rfl
set_option maxRecDepth 20000 in
theorem tw_977 : (.methodLink "FarLinkModel" 185 y_MD_downRest : Cond) ∈ gw := gw_mem (tb_mem 977 rfl) rfl
set_option maxRecDepth 20000 in
theorem tw_978 : (.static y_MD_downRest : Cond) ∈ gw := gw_mem (tb_mem 978 rfl) rfl
set_option maxRecDepth 20000 in
theorem tw_979 : (.code y_MD_downRest b_MD_downRest 7 (some .int) : Cond) ∈ gw := gw_mem (tb_mem 979 rfl) rfl
set_option maxRecDepth 20000 in
theorem tw_980 : (.methodLink "FarLinkModel" 188 y_MD_effect : Cond) ∈ gw := gw_mem (tb_mem 980 rfl) rfl
set_option maxRecDepth 20000 in
theorem tw_981 : (.static y_MD_effect : Cond) ∈ gw := gw_mem (tb_mem 981 rfl) rfl
set_option maxRecDepth 20000 in
theorem tw_982 : (.code y_MD_effect b_MD_effect 5 (some .int) : Cond) ∈ gw := gw_mem (tb_mem 982 rfl) rfl
set_option maxRecDepth 20000 in
theorem tw_983 : (.methodLink "FarLinkModel" 191 y_MD_second : Cond) ∈ gw := gw_mem (tb_mem 983 rfl) rfl
set_option maxRecDepth 20000 in
theorem tw_984 : (.static y_MD_second : Cond) ∈ gw := gw_mem (tb_mem 984 rfl) rfl
set_option maxRecDepth 20000 in
theorem tw_985 : (.code y_MD_second b_MD_second 4 (some .int) : Cond) ∈ gw := gw_mem (tb_mem 985 rfl) rfl
set_option maxRecDepth 20000 in
theorem tw_986 : (.methodLink "FarLinkLaw" 25 y_MD_write : Cond) ∈ gw := gw_mem (tb_mem 986 rfl) rfl
set_option maxRecDepth 20000 in
theorem tw_987 : (.instanceMethod y_MD_write : Cond) ∈ gw := gw_mem (tb_mem 987 rfl) rfl
set_option maxRecDepth 20000 in
theorem tw_988 : (.selects "FarLinkModel" y_MD_write y_MD_write : Cond) ∈ gw := gw_mem (tb_mem 988 rfl) rfl
set_option maxRecDepth 20000 in
theorem tw_989 : (.code y_MD_write b_MD_write 4 (some .boolean) : Cond) ∈ gw := gw_mem (tb_mem 989 rfl) rfl
set_option maxRecDepth 20000 in
theorem tw_990 : (.methodLink "FarLinkModel" 342 y_MD_outside : Cond) ∈ gw := gw_mem (tb_mem 990 rfl) rfl
set_option maxRecDepth 20000 in
theorem tw_991 : (.static y_MD_outside : Cond) ∈ gw := gw_mem (tb_mem 991 rfl) rfl
set_option maxRecDepth 20000 in
theorem tw_992 : (.code y_MD_outside b_MD_outside 2 (some .boolean) : Cond) ∈ gw := gw_mem (tb_mem 992 rfl) rfl
set_option maxRecDepth 20000 in
theorem tw_993 : (.methodLink "FarLinkLaw" 30 y_MD_put : Cond) ∈ gw := gw_mem (tb_mem 993 rfl) rfl
set_option maxRecDepth 20000 in
theorem tw_994 : (.instanceMethod y_MD_put : Cond) ∈ gw := gw_mem (tb_mem 994 rfl) rfl
set_option maxRecDepth 20000 in
theorem tw_995 : (.selects "FarLinkModel" y_MD_put y_MD_put : Cond) ∈ gw := gw_mem (tb_mem 995 rfl) rfl
set_option maxRecDepth 20000 in
theorem tw_996 : (.code y_MD_put b_MD_put 7 (some .int) : Cond) ∈ gw := gw_mem (tb_mem 996 rfl) rfl
set_option maxRecDepth 20000 in
theorem tw_997 : (.constant "FarLinkModel" 263 65536 : Cond) ∈ gw := gw_mem (tb_mem 997 rfl) rfl
set_option maxRecDepth 20000 in
theorem tw_998 : (.constant "FarLinkModel" 321 131072 : Cond) ∈ gw := gw_mem (tb_mem 998 rfl) rfl
set_option maxRecDepth 20000 in
theorem tw_999 : (.methodLink "FarLinkLaw" 35 y_MD_cancel : Cond) ∈ gw := gw_mem (tb_mem 999 rfl) rfl
set_option maxRecDepth 20000 in
theorem tw_1000 : (.instanceMethod y_MD_cancel : Cond) ∈ gw := gw_mem (tb_mem 1000 rfl) rfl
set_option maxRecDepth 20000 in
theorem tw_1001 : (.selects "FarLinkModel" y_MD_cancel y_MD_cancel : Cond) ∈ gw := gw_mem (tb_mem 1001 rfl) rfl
set_option maxRecDepth 20000 in
theorem tw_1002 : (.code y_MD_cancel b_MD_cancel 2 (some .boolean) : Cond) ∈ gw := gw_mem (tb_mem 1002 rfl) rfl
set_option maxRecDepth 20000 in
theorem tw_1003 : (.methodLink "FarLinkModel" 346 y_MD_running : Cond) ∈ gw := gw_mem (tb_mem 1003 rfl) rfl
set_option maxRecDepth 20000 in
theorem tw_1005 : (.instanceMethod y_MD_running : Cond) ∈ gw := gw_mem (tb_mem 1005 rfl) rfl
set_option maxRecDepth 20000 in
theorem tw_1006 : (.code y_MD_running b_MD_running 2 (some .boolean) : Cond) ∈ gw := gw_mem (tb_mem 1006 rfl) rfl
set_option maxRecDepth 20000 in
theorem tw_1007 : (.methodLink "FarLinkModel" 318 y_MD_makeEndDue : Cond) ∈ gw := gw_mem (tb_mem 1007 rfl) rfl
set_option maxRecDepth 20000 in
theorem tw_1009 : (.instanceMethod y_MD_makeEndDue : Cond) ∈ gw := gw_mem (tb_mem 1009 rfl) rfl
set_option maxRecDepth 20000 in
theorem tw_1010 : (.code y_MD_makeEndDue b_MD_makeEndDue 2 none : Cond) ∈ gw := gw_mem (tb_mem 1010 rfl) rfl
set_option maxRecDepth 20000 in
theorem tw_1011 : (.methodLink "FarLinkLaw" 40 y_MD_suspend : Cond) ∈ gw := gw_mem (tb_mem 1011 rfl) rfl
set_option maxRecDepth 20000 in
theorem tw_1012 : (.instanceMethod y_MD_suspend : Cond) ∈ gw := gw_mem (tb_mem 1012 rfl) rfl
set_option maxRecDepth 20000 in
theorem tw_1013 : (.selects "FarLinkModel" y_MD_suspend y_MD_suspend : Cond) ∈ gw := gw_mem (tb_mem 1013 rfl) rfl
set_option maxRecDepth 20000 in
theorem tw_1014 : (.code y_MD_suspend b_MD_suspend 3 (some .boolean) : Cond) ∈ gw := gw_mem (tb_mem 1014 rfl) rfl
set_option maxRecDepth 20000 in
theorem tw_1015 : (.methodLink "FarLinkLaw" 47 y_MD_noise : Cond) ∈ gw := gw_mem (tb_mem 1015 rfl) rfl
set_option maxRecDepth 20000 in
theorem tw_1016 : (.instanceMethod y_MD_noise : Cond) ∈ gw := gw_mem (tb_mem 1016 rfl) rfl
set_option maxRecDepth 20000 in
theorem tw_1017 : (.selects "FarLinkModel" y_MD_noise y_MD_noise : Cond) ∈ gw := gw_mem (tb_mem 1017 rfl) rfl
set_option maxRecDepth 20000 in
theorem tw_1018 : (.code y_MD_noise b_MD_noise 5 none : Cond) ∈ gw := gw_mem (tb_mem 1018 rfl) rfl
set_option maxRecDepth 20000 in
theorem tw_1019 : (.methodLink "FarLinkLaw" 52 y_MD_outage : Cond) ∈ gw := gw_mem (tb_mem 1019 rfl) rfl
set_option maxRecDepth 20000 in
theorem tw_1020 : (.instanceMethod y_MD_outage : Cond) ∈ gw := gw_mem (tb_mem 1020 rfl) rfl
set_option maxRecDepth 20000 in
theorem tw_1021 : (.selects "FarLinkModel" y_MD_outage y_MD_outage : Cond) ∈ gw := gw_mem (tb_mem 1021 rfl) rfl
set_option maxRecDepth 20000 in
theorem tw_1022 : (.code y_MD_outage b_MD_outage 3 (some .boolean) : Cond) ∈ gw := gw_mem (tb_mem 1022 rfl) rfl
set_option maxRecDepth 20000 in
theorem tw_1023 : (.methodLink "FarLinkLaw" 57 y_MD_run : Cond) ∈ gw := gw_mem (tb_mem 1023 rfl) rfl
set_option maxRecDepth 20000 in
theorem tw_1024 : (.instanceMethod y_MD_run : Cond) ∈ gw := gw_mem (tb_mem 1024 rfl) rfl
set_option maxRecDepth 20000 in
theorem tw_1025 : (.selects "FarLinkModel" y_MD_run y_MD_run : Cond) ∈ gw := gw_mem (tb_mem 1025 rfl) rfl
set_option maxRecDepth 20000 in
theorem tw_1026 : (.code y_MD_run b_MD_run 3 (some .int) : Cond) ∈ gw := gw_mem (tb_mem 1026 rfl) rfl
set_option maxRecDepth 20000 in
theorem tw_1027 : (.methodLink "FarLinkModel" 350 y_MD_tick : Cond) ∈ gw := gw_mem (tb_mem 1027 rfl) rfl
set_option maxRecDepth 20000 in
theorem tw_1029 : (.instanceMethod y_MD_tick : Cond) ∈ gw := gw_mem (tb_mem 1029 rfl) rfl
set_option maxRecDepth 20000 in
theorem tw_1030 : (.code y_MD_tick b_MD_tick 6 none : Cond) ∈ gw := gw_mem (tb_mem 1030 rfl) rfl
set_option maxRecDepth 20000 in
theorem tw_1031 : (.methodLink "FarLinkModel" 201 y_MD_hear : Cond) ∈ gw := gw_mem (tb_mem 1031 rfl) rfl
set_option maxRecDepth 20000 in
theorem tw_1033 : (.instanceMethod y_MD_hear : Cond) ∈ gw := gw_mem (tb_mem 1033 rfl) rfl
set_option maxRecDepth 20000 in
theorem tw_1034 : (.code y_MD_hear b_MD_hear 6 (some .long) : Cond) ∈ gw := gw_mem (tb_mem 1034 rfl) rfl
set_option maxRecDepth 20000 in
theorem tw_1035 : (.methodLink "FarLinkModel" 197 y_MD_decode : Cond) ∈ gw := gw_mem (tb_mem 1035 rfl) rfl
set_option maxRecDepth 20000 in
theorem tw_1036 : (.methodLink "FarLinkModel" 205 y_MD_craftFrame : Cond) ∈ gw := gw_mem (tb_mem 1036 rfl) rfl
set_option maxRecDepth 20000 in
theorem tw_1038 : (.instanceMethod y_MD_craftFrame : Cond) ∈ gw := gw_mem (tb_mem 1038 rfl) rfl
set_option maxRecDepth 20000 in
theorem tw_1039 : (.code y_MD_craftFrame b_MD_craftFrame 6 none : Cond) ∈ gw := gw_mem (tb_mem 1039 rfl) rfl
set_option maxRecDepth 20000 in
theorem tw_1040 : (.methodLink "FarLinkModel" 244 y_MD_craftPdu : Cond) ∈ gw := gw_mem (tb_mem 1040 rfl) rfl
set_option maxRecDepth 20000 in
theorem tw_1042 : (.instanceMethod y_MD_craftPdu : Cond) ∈ gw := gw_mem (tb_mem 1042 rfl) rfl
set_option maxRecDepth 20000 in
theorem tw_1043 : (.code y_MD_craftPdu b_MD_craftPdu 7 none : Cond) ∈ gw := gw_mem (tb_mem 1043 rfl) rfl
set_option maxRecDepth 20000 in
theorem tw_1044 : (.constantLong "FarLinkModel" 247 255 : Cond) ∈ gw := gw_mem (tb_mem 1044 rfl) rfl
set_option maxRecDepth 20000 in
theorem tw_1045 : (.methodLink "FarLinkModel" 249 y_MD_finish : Cond) ∈ gw := gw_mem (tb_mem 1045 rfl) rfl
set_option maxRecDepth 20000 in
theorem tw_1047 : (.instanceMethod y_MD_finish : Cond) ∈ gw := gw_mem (tb_mem 1047 rfl) rfl
set_option maxRecDepth 20000 in
theorem tw_1048 : (.code y_MD_finish b_MD_finish 3 none : Cond) ∈ gw := gw_mem (tb_mem 1048 rfl) rfl
set_option maxRecDepth 20000 in
theorem tw_1049 : (.methodLink "FarLinkModel" 253 y_MD_takes : Cond) ∈ gw := gw_mem (tb_mem 1049 rfl) rfl
set_option maxRecDepth 20000 in
theorem tw_1051 : (.instanceMethod y_MD_takes : Cond) ∈ gw := gw_mem (tb_mem 1051 rfl) rfl
set_option maxRecDepth 20000 in
theorem tw_1052 : (.code y_MD_takes b_MD_takes 7 (some .boolean) : Cond) ∈ gw := gw_mem (tb_mem 1052 rfl) rfl
set_option maxRecDepth 20000 in
theorem tw_1053 : (.methodLink "FarLinkModel" 257 y_MD_whole : Cond) ∈ gw := gw_mem (tb_mem 1053 rfl) rfl
set_option maxRecDepth 20000 in
theorem tw_1055 : (.instanceMethod y_MD_whole : Cond) ∈ gw := gw_mem (tb_mem 1055 rfl) rfl
set_option maxRecDepth 20000 in
theorem tw_1056 : (.code y_MD_whole b_MD_whole 7 none : Cond) ∈ gw := gw_mem (tb_mem 1056 rfl) rfl
set_option maxRecDepth 20000 in
theorem tw_1057 : (.methodLink "FarLinkModel" 264 y_MD_lacking : Cond) ∈ gw := gw_mem (tb_mem 1057 rfl) rfl
set_option maxRecDepth 20000 in
theorem tw_1059 : (.instanceMethod y_MD_lacking : Cond) ∈ gw := gw_mem (tb_mem 1059 rfl) rfl
set_option maxRecDepth 20000 in
theorem tw_1060 : (.code y_MD_lacking b_MD_lacking 3 (some .int) : Cond) ∈ gw := gw_mem (tb_mem 1060 rfl) rfl
set_option maxRecDepth 20000 in
theorem tw_1061 : (.methodLink "FarLinkModel" 260 y_MD_close : Cond) ∈ gw := gw_mem (tb_mem 1061 rfl) rfl
set_option maxRecDepth 20000 in
theorem tw_1063 : (.instanceMethod y_MD_close : Cond) ∈ gw := gw_mem (tb_mem 1063 rfl) rfl
set_option maxRecDepth 20000 in
theorem tw_1064 : (.code y_MD_close b_MD_close 2 none : Cond) ∈ gw := gw_mem (tb_mem 1064 rfl) rfl
set_option maxRecDepth 20000 in
theorem tw_1065 : (.methodLink "FarLinkModel" 209 y_MD_craftClocks : Cond) ∈ gw := gw_mem (tb_mem 1065 rfl) rfl
set_option maxRecDepth 20000 in
theorem tw_1067 : (.instanceMethod y_MD_craftClocks : Cond) ∈ gw := gw_mem (tb_mem 1067 rfl) rfl
set_option maxRecDepth 20000 in
theorem tw_1068 : (.code y_MD_craftClocks b_MD_craftClocks 3 none : Cond) ∈ gw := gw_mem (tb_mem 1068 rfl) rfl
set_option maxRecDepth 20000 in
theorem tw_1069 : (.methodLink "FarLinkModel" 213 y_MD_craftSends : Cond) ∈ gw := gw_mem (tb_mem 1069 rfl) rfl
set_option maxRecDepth 20000 in
theorem tw_1071 : (.instanceMethod y_MD_craftSends : Cond) ∈ gw := gw_mem (tb_mem 1071 rfl) rfl
set_option maxRecDepth 20000 in
theorem tw_1072 : (.code y_MD_craftSends b_MD_craftSends 8 none : Cond) ∈ gw := gw_mem (tb_mem 1072 rfl) rfl
set_option maxRecDepth 20000 in
theorem tw_1073 : (.constantLong "FarLinkModel" 270 16 : Cond) ∈ gw := gw_mem (tb_mem 1073 rfl) rfl
set_option maxRecDepth 20000 in
theorem tw_1074 : (.constantLong "FarLinkModel" 272 32 : Cond) ∈ gw := gw_mem (tb_mem 1074 rfl) rfl
set_option maxRecDepth 20000 in
theorem tw_1075 : (.methodLink "FarLinkModel" 274 y_MD_encode : Cond) ∈ gw := gw_mem (tb_mem 1075 rfl) rfl
set_option maxRecDepth 20000 in
theorem tw_1076 : (.methodLink "FarLinkModel" 277 y_MD_send : Cond) ∈ gw := gw_mem (tb_mem 1076 rfl) rfl
set_option maxRecDepth 20000 in
theorem tw_1078 : (.instanceMethod y_MD_send : Cond) ∈ gw := gw_mem (tb_mem 1078 rfl) rfl
set_option maxRecDepth 20000 in
theorem tw_1079 : (.code y_MD_send b_MD_send 5 none : Cond) ∈ gw := gw_mem (tb_mem 1079 rfl) rfl
set_option maxRecDepth 20000 in
theorem tw_1080 : (.methodLink "FarLinkModel" 216 y_MD_groundReport : Cond) ∈ gw := gw_mem (tb_mem 1080 rfl) rfl
set_option maxRecDepth 20000 in
theorem tw_1082 : (.instanceMethod y_MD_groundReport : Cond) ∈ gw := gw_mem (tb_mem 1082 rfl) rfl
set_option maxRecDepth 20000 in
theorem tw_1083 : (.code y_MD_groundReport b_MD_groundReport 6 none : Cond) ∈ gw := gw_mem (tb_mem 1083 rfl) rfl
set_option maxRecDepth 20000 in
theorem tw_1084 : (.methodLink "FarLinkModel" 302 y_MD_activeReport : Cond) ∈ gw := gw_mem (tb_mem 1084 rfl) rfl
set_option maxRecDepth 20000 in
theorem tw_1086 : (.instanceMethod y_MD_activeReport : Cond) ∈ gw := gw_mem (tb_mem 1086 rfl) rfl
set_option maxRecDepth 20000 in
theorem tw_1087 : (.code y_MD_activeReport b_MD_activeReport 5 none : Cond) ∈ gw := gw_mem (tb_mem 1087 rfl) rfl
set_option maxRecDepth 20000 in
theorem tw_1088 : (.methodLink "FarLinkModel" 306 y_MD_alert : Cond) ∈ gw := gw_mem (tb_mem 1088 rfl) rfl
set_option maxRecDepth 20000 in
theorem tw_1090 : (.instanceMethod y_MD_alert : Cond) ∈ gw := gw_mem (tb_mem 1090 rfl) rfl
set_option maxRecDepth 20000 in
theorem tw_1091 : (.code y_MD_alert b_MD_alert 2 none : Cond) ∈ gw := gw_mem (tb_mem 1091 rfl) rfl
set_option maxRecDepth 20000 in
theorem tw_1092 : (.methodLink "FarLinkModel" 309 y_MD_markAll : Cond) ∈ gw := gw_mem (tb_mem 1092 rfl) rfl
set_option maxRecDepth 20000 in
theorem tw_1094 : (.instanceMethod y_MD_markAll : Cond) ∈ gw := gw_mem (tb_mem 1094 rfl) rfl
set_option maxRecDepth 20000 in
theorem tw_1095 : (.code y_MD_markAll b_MD_markAll 2 none : Cond) ∈ gw := gw_mem (tb_mem 1095 rfl) rfl
set_option maxRecDepth 20000 in
theorem tw_1096 : (.methodLink "FarLinkModel" 219 y_MD_groundPdu : Cond) ∈ gw := gw_mem (tb_mem 1096 rfl) rfl
set_option maxRecDepth 20000 in
theorem tw_1098 : (.instanceMethod y_MD_groundPdu : Cond) ∈ gw := gw_mem (tb_mem 1098 rfl) rfl
set_option maxRecDepth 20000 in
theorem tw_1099 : (.code y_MD_groundPdu b_MD_groundPdu 7 none : Cond) ∈ gw := gw_mem (tb_mem 1099 rfl) rfl
set_option maxRecDepth 20000 in
theorem tw_1100 : (.constantLong "FarLinkModel" 313 16777215 : Cond) ∈ gw := gw_mem (tb_mem 1100 rfl) rfl
set_option maxRecDepth 20000 in
theorem tw_1101 : (.constant "FarLinkModel" 312 262144 : Cond) ∈ gw := gw_mem (tb_mem 1101 rfl) rfl
set_option maxRecDepth 20000 in
theorem tw_1102 : (.methodLink "FarLinkModel" 315 y_MD_end : Cond) ∈ gw := gw_mem (tb_mem 1102 rfl) rfl
set_option maxRecDepth 20000 in
theorem tw_1104 : (.instanceMethod y_MD_end : Cond) ∈ gw := gw_mem (tb_mem 1104 rfl) rfl
set_option maxRecDepth 20000 in
theorem tw_1105 : (.code y_MD_end b_MD_end 3 none : Cond) ∈ gw := gw_mem (tb_mem 1105 rfl) rfl
set_option maxRecDepth 20000 in
theorem tw_1106 : (.methodLink "FarLinkModel" 222 y_MD_frameClocks : Cond) ∈ gw := gw_mem (tb_mem 1106 rfl) rfl
set_option maxRecDepth 20000 in
theorem tw_1108 : (.instanceMethod y_MD_frameClocks : Cond) ∈ gw := gw_mem (tb_mem 1108 rfl) rfl
set_option maxRecDepth 20000 in
theorem tw_1109 : (.code y_MD_frameClocks b_MD_frameClocks 1 none : Cond) ∈ gw := gw_mem (tb_mem 1109 rfl) rfl
set_option maxRecDepth 20000 in
theorem tw_1110 : (.methodLink "FarLinkModel" 228 y_MD_groundClocks : Cond) ∈ gw := gw_mem (tb_mem 1110 rfl) rfl
set_option maxRecDepth 20000 in
theorem tw_1112 : (.instanceMethod y_MD_groundClocks : Cond) ∈ gw := gw_mem (tb_mem 1112 rfl) rfl
set_option maxRecDepth 20000 in
theorem tw_1113 : (.code y_MD_groundClocks b_MD_groundClocks 2 none : Cond) ∈ gw := gw_mem (tb_mem 1113 rfl) rfl
set_option maxRecDepth 20000 in
theorem tw_1114 : (.methodLink "FarLinkModel" 231 y_MD_groundSends : Cond) ∈ gw := gw_mem (tb_mem 1114 rfl) rfl
set_option maxRecDepth 20000 in
theorem tw_1116 : (.instanceMethod y_MD_groundSends : Cond) ∈ gw := gw_mem (tb_mem 1116 rfl) rfl
set_option maxRecDepth 20000 in
theorem tw_1117 : (.code y_MD_groundSends b_MD_groundSends 3 none : Cond) ∈ gw := gw_mem (tb_mem 1117 rfl) rfl
set_option maxRecDepth 20000 in
theorem tw_1118 : (.constantLong "FarLinkModel" 322 9007199254740992 : Cond) ∈ gw := gw_mem (tb_mem 1118 rfl) rfl
set_option maxRecDepth 20000 in
theorem tw_1119 : (.constantLong "FarLinkModel" 324 13510798882111488 : Cond) ∈ gw := gw_mem (tb_mem 1119 rfl) rfl
set_option maxRecDepth 20000 in
theorem tw_1120 : (.methodLink "FarLinkModel" 326 y_MD_sendUp : Cond) ∈ gw := gw_mem (tb_mem 1120 rfl) rfl
set_option maxRecDepth 20000 in
theorem tw_1122 : (.instanceMethod y_MD_sendUp : Cond) ∈ gw := gw_mem (tb_mem 1122 rfl) rfl
set_option maxRecDepth 20000 in
theorem tw_1123 : (.code y_MD_sendUp b_MD_sendUp 5 none : Cond) ∈ gw := gw_mem (tb_mem 1123 rfl) rfl
set_option maxRecDepth 20000 in
theorem tw_1124 : (.methodLink "FarLinkModel" 329 y_MD_sendDue : Cond) ∈ gw := gw_mem (tb_mem 1124 rfl) rfl
set_option maxRecDepth 20000 in
theorem tw_1126 : (.instanceMethod y_MD_sendDue : Cond) ∈ gw := gw_mem (tb_mem 1126 rfl) rfl
set_option maxRecDepth 20000 in
theorem tw_1127 : (.code y_MD_sendDue b_MD_sendDue 9 none : Cond) ∈ gw := gw_mem (tb_mem 1127 rfl) rfl
set_option maxRecDepth 20000 in
theorem tw_1128 : (.methodLink "FarLinkModel" 332 y_MD_firstDue : Cond) ∈ gw := gw_mem (tb_mem 1128 rfl) rfl
set_option maxRecDepth 20000 in
theorem tw_1130 : (.instanceMethod y_MD_firstDue : Cond) ∈ gw := gw_mem (tb_mem 1130 rfl) rfl
set_option maxRecDepth 20000 in
theorem tw_1131 : (.code y_MD_firstDue b_MD_firstDue 3 (some .int) : Cond) ∈ gw := gw_mem (tb_mem 1131 rfl) rfl
set_option maxRecDepth 20000 in
theorem tw_1132 : (.methodLink "FarLinkModel" 335 y_MD_checksum : Cond) ∈ gw := gw_mem (tb_mem 1132 rfl) rfl
set_option maxRecDepth 20000 in
theorem tw_1134 : (.instanceMethod y_MD_checksum : Cond) ∈ gw := gw_mem (tb_mem 1134 rfl) rfl
set_option maxRecDepth 20000 in
theorem tw_1135 : (.code y_MD_checksum b_MD_checksum 4 (some .int) : Cond) ∈ gw := gw_mem (tb_mem 1135 rfl) rfl
set_option maxRecDepth 20000 in
theorem tw_1136 : (.constantLong "FarLinkModel" 338 4294967295 : Cond) ∈ gw := gw_mem (tb_mem 1136 rfl) rfl
set_option maxRecDepth 20000 in
theorem tw_1137 : (.constantLong "FarLinkModel" 340 4503599627370496 : Cond) ∈ gw := gw_mem (tb_mem 1137 rfl) rfl
set_option maxRecDepth 20000 in
theorem tw_1138 : (.methodLink "FarLinkLaw" 62 y_MD_time : Cond) ∈ gw := gw_mem (tb_mem 1138 rfl) rfl
set_option maxRecDepth 20000 in
theorem tw_1139 : (.instanceMethod y_MD_time : Cond) ∈ gw := gw_mem (tb_mem 1139 rfl) rfl
set_option maxRecDepth 20000 in
theorem tw_1140 : (.selects "FarLinkModel" y_MD_time y_MD_time : Cond) ∈ gw := gw_mem (tb_mem 1140 rfl) rfl
set_option maxRecDepth 20000 in
theorem tw_1141 : (.code y_MD_time b_MD_time 1 (some .int) : Cond) ∈ gw := gw_mem (tb_mem 1141 rfl) rfl
set_option maxRecDepth 20000 in
theorem tw_1142 : (.methodLink "FarLinkLaw" 67 y_MD_outcome : Cond) ∈ gw := gw_mem (tb_mem 1142 rfl) rfl
set_option maxRecDepth 20000 in
theorem tw_1143 : (.instanceMethod y_MD_outcome : Cond) ∈ gw := gw_mem (tb_mem 1143 rfl) rfl
set_option maxRecDepth 20000 in
theorem tw_1144 : (.selects "FarLinkModel" y_MD_outcome y_MD_outcome : Cond) ∈ gw := gw_mem (tb_mem 1144 rfl) rfl
set_option maxRecDepth 20000 in
theorem tw_1145 : (.code y_MD_outcome b_MD_outcome 3 (some .int) : Cond) ∈ gw := gw_mem (tb_mem 1145 rfl) rfl
set_option maxRecDepth 20000 in
theorem tw_1146 : (.methodLink "FarLinkLaw" 72 y_MD_taken : Cond) ∈ gw := gw_mem (tb_mem 1146 rfl) rfl
set_option maxRecDepth 20000 in
theorem tw_1147 : (.instanceMethod y_MD_taken : Cond) ∈ gw := gw_mem (tb_mem 1147 rfl) rfl
set_option maxRecDepth 20000 in
theorem tw_1148 : (.selects "FarLinkModel" y_MD_taken y_MD_taken : Cond) ∈ gw := gw_mem (tb_mem 1148 rfl) rfl
set_option maxRecDepth 20000 in
theorem tw_1149 : (.code y_MD_taken b_MD_taken 3 (some .int) : Cond) ∈ gw := gw_mem (tb_mem 1149 rfl) rfl
set_option maxRecDepth 20000 in
theorem tw_1150 : (.methodLink "FarLinkLaw" 76 y_MD_missing : Cond) ∈ gw := gw_mem (tb_mem 1150 rfl) rfl
set_option maxRecDepth 20000 in
theorem tw_1151 : (.instanceMethod y_MD_missing : Cond) ∈ gw := gw_mem (tb_mem 1151 rfl) rfl
set_option maxRecDepth 20000 in
theorem tw_1152 : (.selects "FarLinkModel" y_MD_missing y_MD_missing : Cond) ∈ gw := gw_mem (tb_mem 1152 rfl) rfl
set_option maxRecDepth 20000 in
theorem tw_1153 : (.code y_MD_missing b_MD_missing 2 (some .int) : Cond) ∈ gw := gw_mem (tb_mem 1153 rfl) rfl
set_option maxRecDepth 20000 in
theorem tw_1154 : (.constant "FarLinkModel" 353 262143 : Cond) ∈ gw := gw_mem (tb_mem 1154 rfl) rfl
set_option maxRecDepth 20000 in
theorem tw_1155 : (.methodLink "FarLinkLaw" 80 y_MD_stored : Cond) ∈ gw := gw_mem (tb_mem 1155 rfl) rfl
set_option maxRecDepth 20000 in
theorem tw_1156 : (.instanceMethod y_MD_stored : Cond) ∈ gw := gw_mem (tb_mem 1156 rfl) rfl
set_option maxRecDepth 20000 in
theorem tw_1157 : (.selects "FarLinkModel" y_MD_stored y_MD_stored : Cond) ∈ gw := gw_mem (tb_mem 1157 rfl) rfl
set_option maxRecDepth 20000 in
theorem tw_1158 : (.code y_MD_stored b_MD_stored 3 (some .int) : Cond) ∈ gw := gw_mem (tb_mem 1158 rfl) rfl
set_option maxRecDepth 20000 in
theorem tw_1159 : (.methodLink "FarLinkLaw" 84 y_MD_report : Cond) ∈ gw := gw_mem (tb_mem 1159 rfl) rfl
set_option maxRecDepth 20000 in
theorem tw_1160 : (.instanceMethod y_MD_report : Cond) ∈ gw := gw_mem (tb_mem 1160 rfl) rfl
set_option maxRecDepth 20000 in
theorem tw_1161 : (.selects "FarLinkModel" y_MD_report y_MD_report : Cond) ∈ gw := gw_mem (tb_mem 1161 rfl) rfl
set_option maxRecDepth 20000 in
theorem tw_1162 : (.code y_MD_report b_MD_report 1 (some .int) : Cond) ∈ gw := gw_mem (tb_mem 1162 rfl) rfl
set_option maxRecDepth 20000 in
theorem tw_1163 : (.methodLink "FarLinkLaw" 88 y_MD_window : Cond) ∈ gw := gw_mem (tb_mem 1163 rfl) rfl
set_option maxRecDepth 20000 in
theorem tw_1164 : (.instanceMethod y_MD_window : Cond) ∈ gw := gw_mem (tb_mem 1164 rfl) rfl
set_option maxRecDepth 20000 in
theorem tw_1165 : (.selects "FarLinkModel" y_MD_window y_MD_window : Cond) ∈ gw := gw_mem (tb_mem 1165 rfl) rfl
set_option maxRecDepth 20000 in
theorem tw_1166 : (.code y_MD_window b_MD_window 3 (some .int) : Cond) ∈ gw := gw_mem (tb_mem 1166 rfl) rfl
set_option maxRecDepth 20000 in
theorem tw_1167 : (.methodLink "FarLinkLaw" 92 y_MD_alerts : Cond) ∈ gw := gw_mem (tb_mem 1167 rfl) rfl
set_option maxRecDepth 20000 in
theorem tw_1168 : (.instanceMethod y_MD_alerts : Cond) ∈ gw := gw_mem (tb_mem 1168 rfl) rfl
set_option maxRecDepth 20000 in
theorem tw_1169 : (.selects "FarLinkModel" y_MD_alerts y_MD_alerts : Cond) ∈ gw := gw_mem (tb_mem 1169 rfl) rfl
set_option maxRecDepth 20000 in
theorem tw_1170 : (.code y_MD_alerts b_MD_alerts 1 (some .int) : Cond) ∈ gw := gw_mem (tb_mem 1170 rfl) rfl
set_option maxRecDepth 20000 in
theorem tw_1171 : (.methodLink "FarLinkLaw" 97 y_MD_sent : Cond) ∈ gw := gw_mem (tb_mem 1171 rfl) rfl
set_option maxRecDepth 20000 in
theorem tw_1172 : (.instanceMethod y_MD_sent : Cond) ∈ gw := gw_mem (tb_mem 1172 rfl) rfl
set_option maxRecDepth 20000 in
theorem tw_1173 : (.selects "FarLinkModel" y_MD_sent y_MD_sent : Cond) ∈ gw := gw_mem (tb_mem 1173 rfl) rfl
set_option maxRecDepth 20000 in
theorem tw_1174 : (.code y_MD_sent b_MD_sent 2 (some .int) : Cond) ∈ gw := gw_mem (tb_mem 1174 rfl) rfl
set_option maxRecDepth 20000 in
theorem tw_1175 : (.methodLink "FarLinkLaw" 101 y_MD_faults : Cond) ∈ gw := gw_mem (tb_mem 1175 rfl) rfl
set_option maxRecDepth 20000 in
theorem tw_1176 : (.instanceMethod y_MD_faults : Cond) ∈ gw := gw_mem (tb_mem 1176 rfl) rfl
set_option maxRecDepth 20000 in
theorem tw_1177 : (.selects "FarLinkModel" y_MD_faults y_MD_faults : Cond) ∈ gw := gw_mem (tb_mem 1177 rfl) rfl
set_option maxRecDepth 20000 in
theorem tw_1178 : (.code y_MD_faults b_MD_faults 2 (some .int) : Cond) ∈ gw := gw_mem (tb_mem 1178 rfl) rfl
set_option maxRecDepth 20000 in
theorem tw_1179 : (.constantLong "FarLinkLaw" 41 4294967295 : Cond) ∈ gw := gw_mem (tb_mem 1179 rfl) rfl
set_option maxRecDepth 20000 in
theorem ps_FL_way : (.selects "FarLink" y_FL_way y_FL_way : Cond) ∈ gw := gw_mem (ps_mem 0 rfl) rfl
set_option maxRecDepth 20000 in
theorem ps_FL_tick : (.selects "FarLink" y_FL_tick y_FL_tick : Cond) ∈ gw := gw_mem (ps_mem 1 rfl) rfl
set_option maxRecDepth 20000 in
theorem ps_CF_giveOnInOrder : (.selects "FarLink$CraftFrames" y_CF_giveOnInOrder y_CF_giveOnInOrder : Cond) ∈ gw := gw_mem (ps_mem 2 rfl) rfl
set_option maxRecDepth 20000 in
theorem ps_CR_looksAt : (.selects "FarLink$CraftRecord" y_CR_looksAt y_CR_looksAt : Cond) ∈ gw := gw_mem (ps_mem 3 rfl) rfl
set_option maxRecDepth 20000 in
theorem ps_CR_hearOpen : (.selects "FarLink$CraftRecord" y_CR_hearOpen y_CR_hearOpen : Cond) ∈ gw := gw_mem (ps_mem 4 rfl) rfl
set_option maxRecDepth 20000 in
theorem ps_CR_endWith : (.selects "FarLink$CraftRecord" y_CR_endWith y_CR_endWith : Cond) ∈ gw := gw_mem (ps_mem 5 rfl) rfl
set_option maxRecDepth 20000 in
theorem ps_CR_tellFinished : (.selects "FarLink$CraftRecord" y_CR_tellFinished y_CR_tellFinished : Cond) ∈ gw := gw_mem (ps_mem 6 rfl) rfl
set_option maxRecDepth 20000 in
theorem ps_CR_takeMetadata : (.selects "FarLink$CraftRecord" y_CR_takeMetadata y_CR_takeMetadata : Cond) ∈ gw := gw_mem (ps_mem 7 rfl) rfl
set_option maxRecDepth 20000 in
theorem ps_CR_has : (.selects "FarLink$CraftRecord" y_CR_has y_CR_has : Cond) ∈ gw := gw_mem (ps_mem 8 rfl) rfl
set_option maxRecDepth 20000 in
theorem ps_CR_takeData : (.selects "FarLink$CraftRecord" y_CR_takeData y_CR_takeData : Cond) ∈ gw := gw_mem (ps_mem 9 rfl) rfl
set_option maxRecDepth 20000 in
theorem ps_CR_takeEof : (.selects "FarLink$CraftRecord" y_CR_takeEof y_CR_takeEof : Cond) ∈ gw := gw_mem (ps_mem 10 rfl) rfl
set_option maxRecDepth 20000 in
theorem ps_CR_lackingParts : (.selects "FarLink$CraftRecord" y_CR_lackingParts y_CR_lackingParts : Cond) ∈ gw := gw_mem (ps_mem 11 rfl) rfl
set_option maxRecDepth 20000 in
theorem ps_CR_askForParts : (.selects "FarLink$CraftRecord" y_CR_askForParts y_CR_askForParts : Cond) ∈ gw := gw_mem (ps_mem 12 rfl) rfl
set_option maxRecDepth 20000 in
theorem ps_CR_becomeClosed : (.selects "FarLink$CraftRecord" y_CR_becomeClosed y_CR_becomeClosed : Cond) ∈ gw := gw_mem (ps_mem 13 rfl) rfl
set_option maxRecDepth 20000 in
theorem ps_CT_keep : (.selects "FarLink$Craft" y_CT_keep y_CT_keep : Cond) ∈ gw := gw_mem (ps_mem 14 rfl) rfl
set_option maxRecDepth 20000 in
theorem ps_CR_stepOpen : (.selects "FarLink$CraftRecord" y_CR_stepOpen y_CR_stepOpen : Cond) ∈ gw := gw_mem (ps_mem 15 rfl) rfl
set_option maxRecDepth 20000 in
theorem ps_CR_stepEnding : (.selects "FarLink$CraftRecord" y_CR_stepEnding y_CR_stepEnding : Cond) ∈ gw := gw_mem (ps_mem 16 rfl) rfl
set_option maxRecDepth 20000 in
theorem ps_GF_hearActive : (.selects "FarLink$GroundFrames" y_GF_hearActive y_GF_hearActive : Cond) ∈ gw := gw_mem (ps_mem 17 rfl) rfl
set_option maxRecDepth 20000 in
theorem ps_GF_alert : (.selects "FarLink$GroundFrames" y_GF_alert y_GF_alert : Cond) ∈ gw := gw_mem (ps_mem 18 rfl) rfl
set_option maxRecDepth 20000 in
theorem ps_GF_confirm : (.selects "FarLink$GroundFrames" y_GF_confirm y_GF_confirm : Cond) ∈ gw := gw_mem (ps_mem 19 rfl) rfl
set_option maxRecDepth 20000 in
theorem ps_GF_recover : (.selects "FarLink$GroundFrames" y_GF_recover y_GF_recover : Cond) ∈ gw := gw_mem (ps_mem 20 rfl) rfl
set_option maxRecDepth 20000 in
theorem ps_GF_markAll : (.selects "FarLink$GroundFrames" y_GF_markAll y_GF_markAll : Cond) ∈ gw := gw_mem (ps_mem 21 rfl) rfl
set_option maxRecDepth 20000 in
theorem ps_GF_direct : (.selects "FarLink$GroundFrames" y_GF_direct y_GF_direct : Cond) ∈ gw := gw_mem (ps_mem 22 rfl) rfl
set_option maxRecDepth 20000 in
theorem ps_TR_hearUnderWay : (.selects "FarLink$Transaction" y_TR_hearUnderWay y_TR_hearUnderWay : Cond) ∈ gw := gw_mem (ps_mem 23 rfl) rfl
set_option maxRecDepth 20000 in
theorem ps_TR_endWith : (.selects "FarLink$Transaction" y_TR_endWith y_TR_endWith : Cond) ∈ gw := gw_mem (ps_mem 24 rfl) rfl
set_option maxRecDepth 20000 in
theorem ps_TR_stepIdle : (.selects "FarLink$Transaction" y_TR_stepIdle y_TR_stepIdle : Cond) ∈ gw := gw_mem (ps_mem 25 rfl) rfl
set_option maxRecDepth 20000 in
theorem ps_TR_stepClock : (.selects "FarLink$Transaction" y_TR_stepClock y_TR_stepClock : Cond) ∈ gw := gw_mem (ps_mem 26 rfl) rfl
set_option maxRecDepth 20000 in
theorem ps_TR_pdu : (.selects "FarLink$Transaction" y_TR_pdu y_TR_pdu : Cond) ∈ gw := gw_mem (ps_mem 27 rfl) rfl
set_option maxRecDepth 20000 in
theorem ps_TR_leastWordDue : (.selects "FarLink$Transaction" y_TR_leastWordDue y_TR_leastWordDue : Cond) ∈ gw := gw_mem (ps_mem 28 rfl) rfl
set_option maxRecDepth 20000 in
theorem ps_MD_running : (.selects "FarLinkModel" y_MD_running y_MD_running : Cond) ∈ gw := gw_mem (ps_mem 29 rfl) rfl
set_option maxRecDepth 20000 in
theorem ps_MD_makeEndDue : (.selects "FarLinkModel" y_MD_makeEndDue y_MD_makeEndDue : Cond) ∈ gw := gw_mem (ps_mem 30 rfl) rfl
set_option maxRecDepth 20000 in
theorem ps_MD_tick : (.selects "FarLinkModel" y_MD_tick y_MD_tick : Cond) ∈ gw := gw_mem (ps_mem 31 rfl) rfl
set_option maxRecDepth 20000 in
theorem ps_MD_hear : (.selects "FarLinkModel" y_MD_hear y_MD_hear : Cond) ∈ gw := gw_mem (ps_mem 32 rfl) rfl
set_option maxRecDepth 20000 in
theorem ps_MD_craftFrame : (.selects "FarLinkModel" y_MD_craftFrame y_MD_craftFrame : Cond) ∈ gw := gw_mem (ps_mem 33 rfl) rfl
set_option maxRecDepth 20000 in
theorem ps_MD_craftPdu : (.selects "FarLinkModel" y_MD_craftPdu y_MD_craftPdu : Cond) ∈ gw := gw_mem (ps_mem 34 rfl) rfl
set_option maxRecDepth 20000 in
theorem ps_MD_finish : (.selects "FarLinkModel" y_MD_finish y_MD_finish : Cond) ∈ gw := gw_mem (ps_mem 35 rfl) rfl
set_option maxRecDepth 20000 in
theorem ps_MD_takes : (.selects "FarLinkModel" y_MD_takes y_MD_takes : Cond) ∈ gw := gw_mem (ps_mem 36 rfl) rfl
set_option maxRecDepth 20000 in
theorem ps_MD_whole : (.selects "FarLinkModel" y_MD_whole y_MD_whole : Cond) ∈ gw := gw_mem (ps_mem 37 rfl) rfl
set_option maxRecDepth 20000 in
theorem ps_MD_lacking : (.selects "FarLinkModel" y_MD_lacking y_MD_lacking : Cond) ∈ gw := gw_mem (ps_mem 38 rfl) rfl
set_option maxRecDepth 20000 in
theorem ps_MD_close : (.selects "FarLinkModel" y_MD_close y_MD_close : Cond) ∈ gw := gw_mem (ps_mem 39 rfl) rfl
set_option maxRecDepth 20000 in
theorem ps_MD_craftClocks : (.selects "FarLinkModel" y_MD_craftClocks y_MD_craftClocks : Cond) ∈ gw := gw_mem (ps_mem 40 rfl) rfl
set_option maxRecDepth 20000 in
theorem ps_MD_craftSends : (.selects "FarLinkModel" y_MD_craftSends y_MD_craftSends : Cond) ∈ gw := gw_mem (ps_mem 41 rfl) rfl
set_option maxRecDepth 20000 in
theorem ps_MD_send : (.selects "FarLinkModel" y_MD_send y_MD_send : Cond) ∈ gw := gw_mem (ps_mem 42 rfl) rfl
set_option maxRecDepth 20000 in
theorem ps_MD_groundReport : (.selects "FarLinkModel" y_MD_groundReport y_MD_groundReport : Cond) ∈ gw := gw_mem (ps_mem 43 rfl) rfl
set_option maxRecDepth 20000 in
theorem ps_MD_activeReport : (.selects "FarLinkModel" y_MD_activeReport y_MD_activeReport : Cond) ∈ gw := gw_mem (ps_mem 44 rfl) rfl
set_option maxRecDepth 20000 in
theorem ps_MD_alert : (.selects "FarLinkModel" y_MD_alert y_MD_alert : Cond) ∈ gw := gw_mem (ps_mem 45 rfl) rfl
set_option maxRecDepth 20000 in
theorem ps_MD_markAll : (.selects "FarLinkModel" y_MD_markAll y_MD_markAll : Cond) ∈ gw := gw_mem (ps_mem 46 rfl) rfl
set_option maxRecDepth 20000 in
theorem ps_MD_groundPdu : (.selects "FarLinkModel" y_MD_groundPdu y_MD_groundPdu : Cond) ∈ gw := gw_mem (ps_mem 47 rfl) rfl
set_option maxRecDepth 20000 in
theorem ps_MD_end : (.selects "FarLinkModel" y_MD_end y_MD_end : Cond) ∈ gw := gw_mem (ps_mem 48 rfl) rfl
set_option maxRecDepth 20000 in
theorem ps_MD_frameClocks : (.selects "FarLinkModel" y_MD_frameClocks y_MD_frameClocks : Cond) ∈ gw := gw_mem (ps_mem 49 rfl) rfl
set_option maxRecDepth 20000 in
theorem ps_MD_groundClocks : (.selects "FarLinkModel" y_MD_groundClocks y_MD_groundClocks : Cond) ∈ gw := gw_mem (ps_mem 50 rfl) rfl
set_option maxRecDepth 20000 in
theorem ps_MD_groundSends : (.selects "FarLinkModel" y_MD_groundSends y_MD_groundSends : Cond) ∈ gw := gw_mem (ps_mem 51 rfl) rfl
set_option maxRecDepth 20000 in
theorem ps_MD_sendUp : (.selects "FarLinkModel" y_MD_sendUp y_MD_sendUp : Cond) ∈ gw := gw_mem (ps_mem 52 rfl) rfl
set_option maxRecDepth 20000 in
theorem ps_MD_sendDue : (.selects "FarLinkModel" y_MD_sendDue y_MD_sendDue : Cond) ∈ gw := gw_mem (ps_mem 53 rfl) rfl
set_option maxRecDepth 20000 in
theorem ps_MD_firstDue : (.selects "FarLinkModel" y_MD_firstDue y_MD_firstDue : Cond) ∈ gw := gw_mem (ps_mem 54 rfl) rfl
set_option maxRecDepth 20000 in
theorem ps_MD_checksum : (.selects "FarLinkModel" y_MD_checksum y_MD_checksum : Cond) ∈ gw := gw_mem (ps_mem 55 rfl) rfl
abbrev w_FL_init : List Cond := .code y_FL_init b_FL_init 4 none :: gw
abbrev w_FL_write : List Cond := .code y_FL_write b_FL_write 4 (some .boolean) :: gw
abbrev w_FL_put : List Cond := .code y_FL_put b_FL_put 5 (some .int) :: gw
abbrev w_FL_cancel : List Cond := .code y_FL_cancel b_FL_cancel 2 (some .boolean) :: gw
abbrev w_FL_suspend : List Cond := .code y_FL_suspend b_FL_suspend 3 (some .boolean) :: gw
abbrev w_FL_noise : List Cond := .code y_FL_noise b_FL_noise 4 none :: gw
abbrev w_FL_outage : List Cond := .code y_FL_outage b_FL_outage 3 (some .boolean) :: gw
abbrev w_FL_run : List Cond := .code y_FL_run b_FL_run 4 (some .int) :: gw
abbrev w_FL_time : List Cond := .code y_FL_time b_FL_time 1 (some .int) :: gw
abbrev w_FL_outcome : List Cond := .code y_FL_outcome b_FL_outcome 3 (some .int) :: gw
abbrev w_FL_taken : List Cond := .code y_FL_taken b_FL_taken 3 (some .int) :: gw
abbrev w_FL_missing : List Cond := .code y_FL_missing b_FL_missing 2 (some .int) :: gw
abbrev w_FL_stored : List Cond := .code y_FL_stored b_FL_stored 3 (some .int) :: gw
abbrev w_FL_report : List Cond := .code y_FL_report b_FL_report 1 (some .int) :: gw
abbrev w_FL_window : List Cond := .code y_FL_window b_FL_window 1 (some .int) :: gw
abbrev w_FL_alerts : List Cond := .code y_FL_alerts b_FL_alerts 1 (some .int) :: gw
abbrev w_FL_sent : List Cond := .code y_FL_sent b_FL_sent 2 (some .int) :: gw
abbrev w_FL_faults : List Cond := .code y_FL_faults b_FL_faults 2 (some .int) :: gw
abbrev w_FL_encode : List Cond := .code y_FL_encode b_FL_encode 4 (some .long) :: gw
abbrev w_FL_decode : List Cond := .code y_FL_decode b_FL_decode 4 (some .long) :: gw
abbrev w_FL_way : List Cond := .code y_FL_way b_FL_way 2 (some (.object "FarLink$Way")) :: gw
abbrev w_FL_tick : List Cond := .code y_FL_tick b_FL_tick 3 none :: gw
abbrev w_FL_isBelow : List Cond := .code y_FL_isBelow b_FL_isBelow 2 (some .boolean) :: gw
abbrev w_FL_wordsBelow : List Cond := .code y_FL_wordsBelow b_FL_wordsBelow 1 (some .int) :: gw
abbrev w_FL_sumBelow : List Cond := .code y_FL_sumBelow b_FL_sumBelow 4 (some .int) :: gw
abbrev w_FL_fourBitsAt : List Cond := .code y_FL_fourBitsAt b_FL_fourBitsAt 3 (some .int) :: gw
abbrev w_MD_init : List Cond := .code y_MD_init b_MD_init 2 none :: gw
abbrev w_MD_upRest : List Cond := .code y_MD_upRest b_MD_upRest 5 (some .int) :: gw
abbrev w_MD_times : List Cond := .code y_MD_times b_MD_times 4 (some .int) :: gw
abbrev w_MD_power : List Cond := .code y_MD_power b_MD_power 3 (some .int) :: gw
abbrev w_MD_downRest : List Cond := .code y_MD_downRest b_MD_downRest 7 (some .int) :: gw
abbrev w_MD_effect : List Cond := .code y_MD_effect b_MD_effect 5 (some .int) :: gw
abbrev w_MD_encode : List Cond := .code y_MD_encode b_MD_encode 13 (some .long) :: gw
abbrev w_MD_product : List Cond := .code y_MD_product b_MD_product 11 (some .long) :: gw
abbrev w_MD_decode : List Cond := .code y_MD_decode b_MD_decode 6 (some .long) :: gw
abbrev w_MD_decodeUp : List Cond := .code y_MD_decodeUp b_MD_decodeUp 5 (some .long) :: gw
abbrev w_MD_decodeDown : List Cond := .code y_MD_decodeDown b_MD_decodeDown 9 (some .long) :: gw
abbrev w_MD_second : List Cond := .code y_MD_second b_MD_second 4 (some .int) :: gw
abbrev w_MD_send : List Cond := .code y_MD_send b_MD_send 5 none :: gw
abbrev w_MD_hear : List Cond := .code y_MD_hear b_MD_hear 6 (some .long) :: gw
abbrev w_MD_tick : List Cond := .code y_MD_tick b_MD_tick 6 none :: gw
abbrev w_MD_craftFrame : List Cond := .code y_MD_craftFrame b_MD_craftFrame 6 none :: gw
abbrev w_MD_craftPdu : List Cond := .code y_MD_craftPdu b_MD_craftPdu 7 none :: gw
abbrev w_MD_takes : List Cond := .code y_MD_takes b_MD_takes 7 (some .boolean) :: gw
abbrev w_MD_lacking : List Cond := .code y_MD_lacking b_MD_lacking 3 (some .int) :: gw
abbrev w_MD_whole : List Cond := .code y_MD_whole b_MD_whole 7 none :: gw
abbrev w_MD_finish : List Cond := .code y_MD_finish b_MD_finish 3 none :: gw
abbrev w_MD_close : List Cond := .code y_MD_close b_MD_close 2 none :: gw
abbrev w_MD_craftClocks : List Cond := .code y_MD_craftClocks b_MD_craftClocks 3 none :: gw
abbrev w_MD_craftSends : List Cond := .code y_MD_craftSends b_MD_craftSends 8 none :: gw
abbrev w_MD_alert : List Cond := .code y_MD_alert b_MD_alert 2 none :: gw
abbrev w_MD_markAll : List Cond := .code y_MD_markAll b_MD_markAll 2 none :: gw
abbrev w_MD_groundReport : List Cond := .code y_MD_groundReport b_MD_groundReport 6 none :: gw
abbrev w_MD_activeReport : List Cond := .code y_MD_activeReport b_MD_activeReport 5 none :: gw
abbrev w_MD_end : List Cond := .code y_MD_end b_MD_end 3 none :: gw
abbrev w_MD_groundPdu : List Cond := .code y_MD_groundPdu b_MD_groundPdu 7 none :: gw
abbrev w_MD_frameClocks : List Cond := .code y_MD_frameClocks b_MD_frameClocks 1 none :: gw
abbrev w_MD_groundClocks : List Cond := .code y_MD_groundClocks b_MD_groundClocks 2 none :: gw
abbrev w_MD_makeEndDue : List Cond := .code y_MD_makeEndDue b_MD_makeEndDue 2 none :: gw
abbrev w_MD_groundSends : List Cond := .code y_MD_groundSends b_MD_groundSends 3 none :: gw
abbrev w_MD_sendUp : List Cond := .code y_MD_sendUp b_MD_sendUp 5 none :: gw
abbrev w_MD_firstDue : List Cond := .code y_MD_firstDue b_MD_firstDue 3 (some .int) :: gw
abbrev w_MD_checksum : List Cond := .code y_MD_checksum b_MD_checksum 4 (some .int) :: gw
abbrev w_MD_sendDue : List Cond := .code y_MD_sendDue b_MD_sendDue 9 none :: gw
abbrev w_MD_outside : List Cond := .code y_MD_outside b_MD_outside 2 (some .boolean) :: gw
abbrev w_MD_write : List Cond := .code y_MD_write b_MD_write 4 (some .boolean) :: gw
abbrev w_MD_put : List Cond := .code y_MD_put b_MD_put 7 (some .int) :: gw
abbrev w_MD_running : List Cond := .code y_MD_running b_MD_running 2 (some .boolean) :: gw
abbrev w_MD_cancel : List Cond := .code y_MD_cancel b_MD_cancel 2 (some .boolean) :: gw
abbrev w_MD_suspend : List Cond := .code y_MD_suspend b_MD_suspend 3 (some .boolean) :: gw
abbrev w_MD_noise : List Cond := .code y_MD_noise b_MD_noise 5 none :: gw
abbrev w_MD_outage : List Cond := .code y_MD_outage b_MD_outage 3 (some .boolean) :: gw
abbrev w_MD_run : List Cond := .code y_MD_run b_MD_run 3 (some .int) :: gw
abbrev w_MD_time : List Cond := .code y_MD_time b_MD_time 1 (some .int) :: gw
abbrev w_MD_outcome : List Cond := .code y_MD_outcome b_MD_outcome 3 (some .int) :: gw
abbrev w_MD_taken : List Cond := .code y_MD_taken b_MD_taken 3 (some .int) :: gw
abbrev w_MD_missing : List Cond := .code y_MD_missing b_MD_missing 2 (some .int) :: gw
abbrev w_MD_stored : List Cond := .code y_MD_stored b_MD_stored 3 (some .int) :: gw
abbrev w_MD_report : List Cond := .code y_MD_report b_MD_report 1 (some .int) :: gw
abbrev w_MD_window : List Cond := .code y_MD_window b_MD_window 3 (some .int) :: gw
abbrev w_MD_alerts : List Cond := .code y_MD_alerts b_MD_alerts 1 (some .int) :: gw
abbrev w_MD_sent : List Cond := .code y_MD_sent b_MD_sent 2 (some .int) :: gw
abbrev w_MD_faults : List Cond := .code y_MD_faults b_MD_faults 2 (some .int) :: gw
abbrev w_CT_init : List Cond := .code y_CT_init b_CT_init 3 none :: gw
abbrev w_CT_hear : List Cond := .code y_CT_hear b_CT_hear 5 none :: gw
abbrev w_CT_stepClocks : List Cond := .code y_CT_stepClocks b_CT_stepClocks 2 none :: gw
abbrev w_CT_nextInfo : List Cond := .code y_CT_nextInfo b_CT_nextInfo 2 (some .long) :: gw
abbrev w_CT_countClosed : List Cond := .code y_CT_countClosed b_CT_countClosed 3 (some .int) :: gw
abbrev w_CT_storedAt : List Cond := .code y_CT_storedAt b_CT_storedAt 3 (some .int) :: gw
abbrev w_CT_keep : List Cond := .code y_CT_keep b_CT_keep 3 none :: gw
abbrev w_CF_init : List Cond := .code y_CF_init b_CF_init 1 none :: gw
abbrev w_CF_giveOn : List Cond := .code y_CF_giveOn b_CF_giveOn 3 (some .boolean) :: gw
abbrev w_CF_giveOnInOrder : List Cond := .code y_CF_giveOnInOrder b_CF_giveOnInOrder 3 (some .boolean) :: gw
abbrev w_CF_reportBits : List Cond := .code y_CF_reportBits b_CF_reportBits 1 (some .int) :: gw
abbrev w_CR_init : List Cond := .code y_CR_init b_CR_init 2 none :: gw
abbrev w_CR_hear : List Cond := .code y_CR_hear b_CR_hear 4 (some .boolean) :: gw
abbrev w_CR_looksAt : List Cond := .code y_CR_looksAt b_CR_looksAt 3 (some .boolean) :: gw
abbrev w_CR_hearOpen : List Cond := .code y_CR_hearOpen b_CR_hearOpen 6 (some .boolean) :: gw
abbrev w_CR_takeMetadata : List Cond := .code y_CR_takeMetadata b_CR_takeMetadata 3 (some .boolean) :: gw
abbrev w_CR_takeData : List Cond := .code y_CR_takeData b_CR_takeData 3 (some .boolean) :: gw
abbrev w_CR_takeEof : List Cond := .code y_CR_takeEof b_CR_takeEof 3 (some .boolean) :: gw
abbrev w_CR_has : List Cond := .code y_CR_has b_CR_has 2 (some .boolean) :: gw
abbrev w_CR_missingParts : List Cond := .code y_CR_missingParts b_CR_missingParts 1 (some .int) :: gw
abbrev w_CR_lackingParts : List Cond := .code y_CR_lackingParts b_CR_lackingParts 1 (some .int) :: gw
abbrev w_CR_askForParts : List Cond := .code y_CR_askForParts b_CR_askForParts 1 none :: gw
abbrev w_CR_endWith : List Cond := .code y_CR_endWith b_CR_endWith 2 none :: gw
abbrev w_CR_tellFinished : List Cond := .code y_CR_tellFinished b_CR_tellFinished 1 none :: gw
abbrev w_CR_becomeClosed : List Cond := .code y_CR_becomeClosed b_CR_becomeClosed 1 none :: gw
abbrev w_CR_stepClocks : List Cond := .code y_CR_stepClocks b_CR_stepClocks 1 none :: gw
abbrev w_CR_stepOpen : List Cond := .code y_CR_stepOpen b_CR_stepOpen 1 none :: gw
abbrev w_CR_stepEnding : List Cond := .code y_CR_stepEnding b_CR_stepEnding 1 none :: gw
abbrev w_CR_owesAny : List Cond := .code y_CR_owesAny b_CR_owesAny 1 (some .boolean) :: gw
abbrev w_CR_payOne : List Cond := .code y_CR_payOne b_CR_payOne 1 (some .long) :: gw
abbrev w_CR_result : List Cond := .code y_CR_result b_CR_result 1 (some .int) :: gw
abbrev w_DV_rest : List Cond := .code y_DV_rest b_DV_rest 10 (some .int) :: gw
abbrev w_DC_blockOf : List Cond := .code y_DC_blockOf b_DC_blockOf 4 (some .long) :: gw
abbrev w_DC_syndromeOf : List Cond := .code y_DC_syndromeOf b_DC_syndromeOf 3 (some .int) :: gw
abbrev w_DC_infoOf : List Cond := .code y_DC_infoOf b_DC_infoOf 10 (some .long) :: gw
abbrev w_DC_oneError : List Cond := .code y_DC_oneError b_DC_oneError 5 (some .long) :: gw
abbrev w_DC_twoErrors : List Cond := .code y_DC_twoErrors b_DC_twoErrors 12 (some .long) :: gw
abbrev w_DC_errorAt : List Cond := .code y_DC_errorAt b_DC_errorAt 2 (some .long) :: gw
abbrev w_DC_valueAt : List Cond := .code y_DC_valueAt b_DC_valueAt 4 (some .int) :: gw
abbrev w_DC_times : List Cond := .code y_DC_times b_DC_times 2 (some .int) :: gw
abbrev w_DC_over : List Cond := .code y_DC_over b_DC_over 2 (some .int) :: gw
abbrev w_GR_init : List Cond := .code y_GR_init b_GR_init 3 none :: gw
abbrev w_GR_has : List Cond := .code y_GR_has b_GR_has 2 (some .boolean) :: gw
abbrev w_GR_begin : List Cond := .code y_GR_begin b_GR_begin 5 (some .int) :: gw
abbrev w_GR_hear : List Cond := .code y_GR_hear b_GR_hear 4 none :: gw
abbrev w_GR_stepClocks : List Cond := .code y_GR_stepClocks b_GR_stepClocks 2 none :: gw
abbrev w_GR_nextInfo : List Cond := .code y_GR_nextInfo b_GR_nextInfo 6 (some .long) :: gw
abbrev w_GR_countEnded : List Cond := .code y_GR_countEnded b_GR_countEnded 3 (some .int) :: gw
abbrev w_GF_init : List Cond := .code y_GF_init b_GF_init 2 none :: gw
abbrev w_GF_hear : List Cond := .code y_GF_hear b_GF_hear 4 none :: gw
abbrev w_GF_hearActive : List Cond := .code y_GF_hearActive b_GF_hearActive 5 none :: gw
abbrev w_GF_confirm : List Cond := .code y_GF_confirm b_GF_confirm 2 none :: gw
abbrev w_GF_recover : List Cond := .code y_GF_recover b_GF_recover 2 none :: gw
abbrev w_GF_alert : List Cond := .code y_GF_alert b_GF_alert 2 none :: gw
abbrev w_GF_direct : List Cond := .code y_GF_direct b_GF_direct 2 none :: gw
abbrev w_GF_stepClock : List Cond := .code y_GF_stepClock b_GF_stepClock 1 none :: gw
abbrev w_GF_hasRoom : List Cond := .code y_GF_hasRoom b_GF_hasRoom 1 (some .boolean) :: gw
abbrev w_GF_sendDirective : List Cond := .code y_GF_sendDirective b_GF_sendDirective 1 (some .long) :: gw
abbrev w_GF_sendMarked : List Cond := .code y_GF_sendMarked b_GF_sendMarked 3 (some .long) :: gw
abbrev w_GF_sendInOrder : List Cond := .code y_GF_sendInOrder b_GF_sendInOrder 4 (some .long) :: gw
abbrev w_GF_markAll : List Cond := .code y_GF_markAll b_GF_markAll 2 none :: gw
abbrev w_GF_countMarked : List Cond := .code y_GF_countMarked b_GF_countMarked 3 (some .int) :: gw
abbrev w_GF_summary : List Cond := .code y_GF_summary b_GF_summary 1 (some .int) :: gw
abbrev w_TR_init : List Cond := .code y_TR_init b_TR_init 3 none :: gw
abbrev w_TR_begin : List Cond := .code y_TR_begin b_TR_begin 5 none :: gw
abbrev w_TR_becomeCancelled : List Cond := .code y_TR_becomeCancelled b_TR_becomeCancelled 1 (some .boolean) :: gw
abbrev w_TR_becomeSuspended : List Cond := .code y_TR_becomeSuspended b_TR_becomeSuspended 2 (some .boolean) :: gw
abbrev w_TR_hear : List Cond := .code y_TR_hear b_TR_hear 3 none :: gw
abbrev w_TR_hearUnderWay : List Cond := .code y_TR_hearUnderWay b_TR_hearUnderWay 3 none :: gw
abbrev w_TR_endWith : List Cond := .code y_TR_endWith b_TR_endWith 2 none :: gw
abbrev w_TR_stepClocks : List Cond := .code y_TR_stepClocks b_TR_stepClocks 1 none :: gw
abbrev w_TR_stepIdle : List Cond := .code y_TR_stepIdle b_TR_stepIdle 1 none :: gw
abbrev w_TR_stepClock : List Cond := .code y_TR_stepClock b_TR_stepClock 1 none :: gw
abbrev w_TR_hasToSend : List Cond := .code y_TR_hasToSend b_TR_hasToSend 1 (some .boolean) :: gw
abbrev w_TR_nextPdu : List Cond := .code y_TR_nextPdu b_TR_nextPdu 2 (some .long) :: gw
abbrev w_TR_leastWordDue : List Cond := .code y_TR_leastWordDue b_TR_leastWordDue 2 (some .int) :: gw
abbrev w_TR_pdu : List Cond := .code y_TR_pdu b_TR_pdu 6 (some .long) :: gw
abbrev w_TR_result : List Cond := .code y_TR_result b_TR_result 1 (some .int) :: gw
abbrev w_UC_blockOf : List Cond := .code y_UC_blockOf b_UC_blockOf 5 (some .long) :: gw
abbrev w_UC_syndromeOf : List Cond := .code y_UC_syndromeOf b_UC_syndromeOf 3 (some .int) :: gw
abbrev w_UC_infoOf : List Cond := .code y_UC_infoOf b_UC_infoOf 7 (some .long) :: gw
abbrev w_UC_timesX : List Cond := .code y_UC_timesX b_UC_timesX 2 (some .int) :: gw
abbrev w_WY_init : List Cond := .code y_WY_init b_WY_init 4 none :: gw
abbrev w_WY_turnNext : List Cond := .code y_WY_turnNext b_WY_turnNext 3 none :: gw
abbrev w_WY_send : List Cond := .code y_WY_send b_WY_send 6 none :: gw
abbrev w_WY_hear : List Cond := .code y_WY_hear b_WY_hear 7 (some .long) :: gw
abbrev w_LW_cell : List Cond := .code y_LW_cell b_LW_cell 2 (some .int) :: gw
