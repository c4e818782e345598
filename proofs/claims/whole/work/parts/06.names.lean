/-! ===== names and words of the methods ===== -/
abbrev b_X_init : ByteArray := prog_1_method_1_code
def y_X_init : MethodName := ⟨"SkiPasses", "<init>", "()V"⟩
abbrev m_X_init : gM := ("SkiPasses", b_X_init, 1, (Option.none : Option Jvm.ClassFile.FieldType), [], true)
abbrev b_X_clear : ByteArray := prog_1_method_2_code
def y_X_clear : MethodName := ⟨"SkiPasses", "clear", "()I"⟩
abbrev m_X_clear : gM := ("SkiPasses", b_X_clear, 2, (Option.some FieldType.int), [], false)
abbrev b_X_isConsistent : ByteArray := prog_1_method_29_code
def y_X_isConsistent : MethodName := ⟨"SkiPasses", "isConsistent", "()Z"⟩
abbrev m_X_isConsistent : gM := ("SkiPasses", b_X_isConsistent, 3, (Option.some FieldType.boolean), [], false)
abbrev b_X_allShares : ByteArray := prog_1_method_46_code
def y_X_allShares : MethodName := ⟨"SkiPasses", "allShares", "()I"⟩
abbrev m_X_allShares : gM := ("SkiPasses", b_X_allShares, 3, (Option.some FieldType.int), [], false)
abbrev b_X_sharesOf : ByteArray := prog_1_method_45_code
def y_X_sharesOf : MethodName := ⟨"SkiPasses", "sharesOf", "(I)I"⟩
abbrev m_X_sharesOf : gM := ("SkiPasses", b_X_sharesOf, 7, (Option.some FieldType.int), [], false)
abbrev b_X_snapshot : ByteArray := prog_1_method_35_code
def y_X_snapshot : MethodName := ⟨"SkiPasses", "snapshot", "()I"⟩
abbrev m_X_snapshot : gM := ("SkiPasses", b_X_snapshot, 1, (Option.some FieldType.int), [], false)
abbrev b_X_addGate : ByteArray := prog_1_method_3_code
def y_X_addGate : MethodName := ⟨"SkiPasses", "addGate", "(II)I"⟩
abbrev m_X_addGate : gM := ("SkiPasses", b_X_addGate, 3, (Option.some FieldType.int), [], false)
abbrev b_X_isPartner : ByteArray := prog_1_method_38_code
def y_X_isPartner : MethodName := ⟨"SkiPasses", "isPartner", "(I)Z"⟩
abbrev m_X_isPartner : gM := ("SkiPasses", b_X_isPartner, 1, (Option.some FieldType.boolean), [], false)
abbrev b_X_isBetween : ByteArray := prog_1_method_37_code
def y_X_isBetween : MethodName := ⟨"SkiPasses", "isBetween", "(III)Z"⟩
abbrev m_X_isBetween : gM := ("SkiPasses", b_X_isBetween, 3, (Option.some FieldType.boolean), [], false)
abbrev b_X_addProduct : ByteArray := prog_1_method_4_code
def y_X_addProduct : MethodName := ⟨"SkiPasses", "addProduct", "(IIIIII)I"⟩
abbrev m_X_addProduct : gM := ("SkiPasses", b_X_addProduct, 9, (Option.some FieldType.int), [], false)
abbrev b_X_gate : ByteArray := prog_1_method_5_code
def y_X_gate : MethodName := ⟨"SkiPasses", "gate", "(II)I"⟩
abbrev m_X_gate : gM := ("SkiPasses", b_X_gate, 4, (Option.some FieldType.int), [], false)
abbrev b_X_existingGate : ByteArray := prog_1_method_40_code
def y_X_existingGate : MethodName := ⟨"SkiPasses", "existingGate", "(I)LSkiPasses$Gate;"⟩
abbrev m_X_existingGate : gM := ("SkiPasses", b_X_existingGate, 3, (Option.some (FieldType.object "SkiPasses$Gate")), [], false)
abbrev b_X_product : ByteArray := prog_1_method_6_code
def y_X_product : MethodName := ⟨"SkiPasses", "product", "(II)I"⟩
abbrev m_X_product : gM := ("SkiPasses", b_X_product, 4, (Option.some FieldType.int), [], false)
abbrev b_X_existingProduct : ByteArray := prog_1_method_41_code
def y_X_existingProduct : MethodName := ⟨"SkiPasses", "existingProduct", "(I)LSkiPasses$Product;"⟩
abbrev m_X_existingProduct : gM := ("SkiPasses", b_X_existingProduct, 3, (Option.some (FieldType.object "SkiPasses$Product")), [], false)
abbrev b_X_way : ByteArray := prog_1_method_7_code
def y_X_way : MethodName := ⟨"SkiPasses", "way", "(II)I"⟩
abbrev m_X_way : gM := ("SkiPasses", b_X_way, 5, (Option.some FieldType.int), [], false)
abbrev b_X_advance : ByteArray := prog_1_method_8_code
def y_X_advance : MethodName := ⟨"SkiPasses", "advance", "(I)I"⟩
abbrev m_X_advance : gM := ("SkiPasses", b_X_advance, 2, (Option.some FieldType.int), [], false)
abbrev b_X_system : ByteArray := prog_1_method_9_code
def y_X_system : MethodName := ⟨"SkiPasses", "system", "(I)I"⟩
abbrev m_X_system : gM := ("SkiPasses", b_X_system, 2, (Option.some FieldType.int), [], false)
abbrev b_X_setClosed : ByteArray := prog_1_method_10_code
def y_X_setClosed : MethodName := ⟨"SkiPasses", "setClosed", "(IZ)Z"⟩
abbrev m_X_setClosed : gM := ("SkiPasses", b_X_setClosed, 5, (Option.some FieldType.boolean), [], false)
abbrev b_X_closedMinutes : ByteArray := prog_1_method_11_code
def y_X_closedMinutes : MethodName := ⟨"SkiPasses", "closedMinutes", "(II)I"⟩
abbrev m_X_closedMinutes : gM := ("SkiPasses", b_X_closedMinutes, 4, (Option.some FieldType.int), [], false)
abbrev b_X_isDay : ByteArray := prog_1_method_39_code
def y_X_isDay : MethodName := ⟨"SkiPasses", "isDay", "(I)Z"⟩
abbrev m_X_isDay : gM := ("SkiPasses", b_X_isDay, 1, (Option.some FieldType.boolean), [], false)
abbrev b_X_isClosedDay : ByteArray := prog_1_method_12_code
def y_X_isClosedDay : MethodName := ⟨"SkiPasses", "isClosedDay", "(II)Z"⟩
abbrev m_X_isClosedDay : gM := ("SkiPasses", b_X_isClosedDay, 4, (Option.some FieldType.boolean), [], false)
abbrev b_X_sell : ByteArray := prog_1_method_13_code
def y_X_sell : MethodName := ⟨"SkiPasses", "sell", "(I)I"⟩
abbrev m_X_sell : gM := ("SkiPasses", b_X_sell, 3, (Option.some FieldType.int), [], false)
abbrev b_X_pass : ByteArray := prog_1_method_14_code
def y_X_pass : MethodName := ⟨"SkiPasses", "pass", "(II)I"⟩
abbrev m_X_pass : gM := ("SkiPasses", b_X_pass, 6, (Option.some FieldType.int), [], false)
abbrev b_X_existingCard : ByteArray := prog_1_method_42_code
def y_X_existingCard : MethodName := ⟨"SkiPasses", "existingCard", "(I)LSkiPasses$Card;"⟩
abbrev m_X_existingCard : gM := ("SkiPasses", b_X_existingCard, 3, (Option.some (FieldType.object "SkiPasses$Card")), [], false)
abbrev b_X_reason : ByteArray := prog_1_method_15_code
def y_X_reason : MethodName := ⟨"SkiPasses", "reason", "(II)I"⟩
abbrev m_X_reason : gM := ("SkiPasses", b_X_reason, 5, (Option.some FieldType.int), [], false)
abbrev b_X_openGates : ByteArray := prog_1_method_16_code
def y_X_openGates : MethodName := ⟨"SkiPasses", "openGates", "(I)I"⟩
abbrev m_X_openGates : gM := ("SkiPasses", b_X_openGates, 2, (Option.some FieldType.int), [], false)
abbrev b_X_refusal : ByteArray := prog_1_method_17_code
def y_X_refusal : MethodName := ⟨"SkiPasses", "refusal", "(I)I"⟩
abbrev m_X_refusal : gM := ("SkiPasses", b_X_refusal, 3, (Option.some FieldType.int), [], false)
abbrev b_X_numberInChain : ByteArray := prog_1_method_44_code
def y_X_numberInChain : MethodName := ⟨"SkiPasses", "numberInChain", "(II)I"⟩
abbrev m_X_numberInChain : gM := ("SkiPasses", b_X_numberInChain, 4, (Option.some FieldType.int), [], false)
abbrev b_X_block : ByteArray := prog_1_method_18_code
def y_X_block : MethodName := ⟨"SkiPasses", "block", "(IZ)I"⟩
abbrev m_X_block : gM := ("SkiPasses", b_X_block, 4, (Option.some FieldType.int), [], false)
abbrev b_X_replace : ByteArray := prog_1_method_19_code
def y_X_replace : MethodName := ⟨"SkiPasses", "replace", "(I)I"⟩
abbrev m_X_replace : gM := ("SkiPasses", b_X_replace, 3, (Option.some FieldType.int), [], false)
abbrev b_X_card : ByteArray := prog_1_method_20_code
def y_X_card : MethodName := ⟨"SkiPasses", "card", "(II)I"⟩
abbrev m_X_card : gM := ("SkiPasses", b_X_card, 4, (Option.some FieldType.int), [], false)
abbrev b_X_ride : ByteArray := prog_1_method_21_code
def y_X_ride : MethodName := ⟨"SkiPasses", "ride", "(IIZ)I"⟩
abbrev m_X_ride : gM := ("SkiPasses", b_X_ride, 5, (Option.some FieldType.int), [], false)
abbrev b_X_refundable : ByteArray := prog_1_method_22_code
def y_X_refundable : MethodName := ⟨"SkiPasses", "refundable", "(I)I"⟩
abbrev m_X_refundable : gM := ("SkiPasses", b_X_refundable, 2, (Option.some FieldType.int), [], false)
abbrev b_X_refund : ByteArray := prog_1_method_23_code
def y_X_refund : MethodName := ⟨"SkiPasses", "refund", "(I)I"⟩
abbrev m_X_refund : gM := ("SkiPasses", b_X_refund, 3, (Option.some FieldType.int), [], false)
abbrev b_X_share : ByteArray := prog_1_method_24_code
def y_X_share : MethodName := ⟨"SkiPasses", "share", "(II)I"⟩
abbrev m_X_share : gM := ("SkiPasses", b_X_share, 4, (Option.some FieldType.int), [], false)
abbrev b_X_requirePartner : ByteArray := prog_1_method_43_code
def y_X_requirePartner : MethodName := ⟨"SkiPasses", "requirePartner", "(I)V"⟩
abbrev m_X_requirePartner : gM := ("SkiPasses", b_X_requirePartner, 1, (Option.none : Option Jvm.ClassFile.FieldType), [], false)
abbrev b_X_partner : ByteArray := prog_1_method_25_code
def y_X_partner : MethodName := ⟨"SkiPasses", "partner", "(II)I"⟩
abbrev m_X_partner : gM := ("SkiPasses", b_X_partner, 3, (Option.some FieldType.int), [], false)
abbrev b_X_account : ByteArray := prog_1_method_26_code
def y_X_account : MethodName := ⟨"SkiPasses", "account", "(I)I"⟩
abbrev m_X_account : gM := ("SkiPasses", b_X_account, 2, (Option.some FieldType.int), [], false)
abbrev b_X_meanRides : ByteArray := prog_1_method_27_code
def y_X_meanRides : MethodName := ⟨"SkiPasses", "meanRides", "()D"⟩
abbrev m_X_meanRides : gM := ("SkiPasses", b_X_meanRides, 2, (Option.some FieldType.double), [], false)
abbrev b_X_closedShare : ByteArray := prog_1_method_28_code
def y_X_closedShare : MethodName := ⟨"SkiPasses", "closedShare", "(I)F"⟩
abbrev m_X_closedShare : gM := ("SkiPasses", b_X_closedShare, 4, (Option.some FieldType.float), [], false)
abbrev b_X_append : ByteArray := prog_1_method_30_code
def y_X_append : MethodName := ⟨"SkiPasses", "append", "(I)I"⟩
abbrev m_X_append : gM := ("SkiPasses", b_X_append, 5, (Option.some FieldType.int), [], false)
abbrev b_X_read : ByteArray := prog_1_method_31_code
def y_X_read : MethodName := ⟨"SkiPasses", "read", "()I"⟩
abbrev m_X_read : gM := ("SkiPasses", b_X_read, 3, (Option.some FieldType.int), [], false)
abbrev b_X_firstRefusedOrder : ByteArray := prog_1_method_47_code
def y_X_firstRefusedOrder : MethodName := ⟨"SkiPasses", "firstRefusedOrder", "()I"⟩
abbrev m_X_firstRefusedOrder : gM := ("SkiPasses", b_X_firstRefusedOrder, 2, (Option.some FieldType.int), [], false)
abbrev b_X_carriesOut : ByteArray := prog_1_method_48_code
def y_X_carriesOut : MethodName := ⟨"SkiPasses", "carriesOut", "(CI)Z"⟩
abbrev m_X_carriesOut : gM := ("SkiPasses", b_X_carriesOut, 3, (Option.some FieldType.boolean), [], false)
abbrev b_X_orderSale : ByteArray := prog_1_method_49_code
def y_X_orderSale : MethodName := ⟨"SkiPasses", "orderSale", "(II)Z"⟩
abbrev m_X_orderSale : gM := ("SkiPasses", b_X_orderSale, 4, (Option.some FieldType.boolean), [], false)
abbrev b_X_orderBlock : ByteArray := prog_1_method_50_code
def y_X_orderBlock : MethodName := ⟨"SkiPasses", "orderBlock", "(IZ)Z"⟩
abbrev m_X_orderBlock : gM := ("SkiPasses", b_X_orderBlock, 4, (Option.some FieldType.boolean), [], false)
abbrev b_X_orderReplacement : ByteArray := prog_1_method_51_code
def y_X_orderReplacement : MethodName := ⟨"SkiPasses", "orderReplacement", "(I)Z"⟩
abbrev m_X_orderReplacement : gM := ("SkiPasses", b_X_orderReplacement, 3, (Option.some FieldType.boolean), [], false)
abbrev b_X_orderClosing : ByteArray := prog_1_method_52_code
def y_X_orderClosing : MethodName := ⟨"SkiPasses", "orderClosing", "(IZ)Z"⟩
abbrev m_X_orderClosing : gM := ("SkiPasses", b_X_orderClosing, 4, (Option.some FieldType.boolean), [], false)
abbrev b_X_orderWait : ByteArray := prog_1_method_53_code
def y_X_orderWait : MethodName := ⟨"SkiPasses", "orderWait", "(I)Z"⟩
abbrev m_X_orderWait : gM := ("SkiPasses", b_X_orderWait, 2, (Option.some FieldType.boolean), [], false)
abbrev b_X_errorPosition : ByteArray := prog_1_method_32_code
def y_X_errorPosition : MethodName := ⟨"SkiPasses", "errorPosition", "()I"⟩
abbrev m_X_errorPosition : gM := ("SkiPasses", b_X_errorPosition, 1, (Option.some FieldType.int), [], false)
abbrev b_X_refusedOrder : ByteArray := prog_1_method_33_code
def y_X_refusedOrder : MethodName := ⟨"SkiPasses", "refusedOrder", "()I"⟩
abbrev m_X_refusedOrder : gM := ("SkiPasses", b_X_refusedOrder, 1, (Option.some FieldType.int), [], false)
abbrev b_X_undo : ByteArray := prog_1_method_34_code
def y_X_undo : MethodName := ⟨"SkiPasses", "undo", "()I"⟩
abbrev m_X_undo : gM := ("SkiPasses", b_X_undo, 1, (Option.some FieldType.int), [], false)
abbrev b_X_restore : ByteArray := prog_1_method_36_code
def y_X_restore : MethodName := ⟨"SkiPasses", "restore", "()I"⟩
abbrev m_X_restore : gM := ("SkiPasses", b_X_restore, 1, (Option.some FieldType.int), [], false)
abbrev b_R_init : ByteArray := prog_6_method_1_code
def y_R_init : MethodName := ⟨"SkiPasses$Resort", "<init>", "()V"⟩
abbrev m_R_init : gM := ("SkiPasses$Resort", b_R_init, 1, (Option.none : Option Jvm.ClassFile.FieldType), [], true)
abbrev b_R_empty : ByteArray := prog_6_method_2_code
def y_R_empty : MethodName := ⟨"SkiPasses$Resort", "empty", "()V"⟩
abbrev m_R_empty : gM := ("SkiPasses$Resort", b_R_empty, 2, (Option.none : Option Jvm.ClassFile.FieldType), [], false)
abbrev b_R_allPrices : ByteArray := prog_6_method_44_code
def y_R_allPrices : MethodName := ⟨"SkiPasses$Resort", "allPrices", "()I"⟩
abbrev m_R_allPrices : gM := ("SkiPasses$Resort", b_R_allPrices, 6, (Option.some FieldType.int), [], false)
abbrev b_R_allRefunds : ByteArray := prog_6_method_45_code
def y_R_allRefunds : MethodName := ⟨"SkiPasses$Resort", "allRefunds", "()I"⟩
abbrev m_R_allRefunds : gM := ("SkiPasses$Resort", b_R_allRefunds, 6, (Option.some FieldType.int), [], false)
abbrev b_R_allIdle : ByteArray := prog_6_method_46_code
def y_R_allIdle : MethodName := ⟨"SkiPasses$Resort", "allIdle", "()I"⟩
abbrev m_R_allIdle : gM := ("SkiPasses$Resort", b_R_allIdle, 6, (Option.some FieldType.int), [], false)
abbrev b_R_ridesThroughAllGates : ByteArray := prog_6_method_39_code
def y_R_ridesThroughAllGates : MethodName := ⟨"SkiPasses$Resort", "ridesThroughAllGates", "()I"⟩
abbrev m_R_ridesThroughAllGates : gM := ("SkiPasses$Resort", b_R_ridesThroughAllGates, 6, (Option.some FieldType.int), [], false)
abbrev b_R_ridesThrough : ByteArray := prog_6_method_38_code
def y_R_ridesThrough : MethodName := ⟨"SkiPasses$Resort", "ridesThrough", "(LSkiPasses$Gate;)I"⟩
abbrev m_R_ridesThrough : gM := ("SkiPasses$Resort", b_R_ridesThrough, 7, (Option.some FieldType.int), [], false)
abbrev b_R_ridesOnAllCards : ByteArray := prog_6_method_37_code
def y_R_ridesOnAllCards : MethodName := ⟨"SkiPasses$Resort", "ridesOnAllCards", "()I"⟩
abbrev m_R_ridesOnAllCards : gM := ("SkiPasses$Resort", b_R_ridesOnAllCards, 6, (Option.some FieldType.int), [], false)
abbrev b_R_keepsAllWays : ByteArray := prog_6_method_41_code
def y_R_keepsAllWays : MethodName := ⟨"SkiPasses$Resort", "keepsAllWays", "()Z"⟩
abbrev m_R_keepsAllWays : gM := ("SkiPasses$Resort", b_R_keepsAllWays, 5, (Option.some FieldType.boolean), [], false)
abbrev b_R_copyFrom : ByteArray := prog_6_method_3_code
def y_R_copyFrom : MethodName := ⟨"SkiPasses$Resort", "copyFrom", "(LSkiPasses$Resort;)V"⟩
abbrev m_R_copyFrom : gM := ("SkiPasses$Resort", b_R_copyFrom, 3, (Option.none : Option Jvm.ClassFile.FieldType), [], false)
abbrev b_R_insertGate : ByteArray := prog_6_method_9_code
def y_R_insertGate : MethodName := ⟨"SkiPasses$Resort", "insertGate", "(LSkiPasses$Gate;)I"⟩
abbrev m_R_insertGate : gM := ("SkiPasses$Resort", b_R_insertGate, 2, (Option.some FieldType.int), [], false)
abbrev b_R_insertProduct : ByteArray := prog_6_method_10_code
def y_R_insertProduct : MethodName := ⟨"SkiPasses$Resort", "insertProduct", "(LSkiPasses$Product;)I"⟩
abbrev m_R_insertProduct : gM := ("SkiPasses$Resort", b_R_insertProduct, 2, (Option.some FieldType.int), [], false)
abbrev b_R_gateAt : ByteArray := prog_6_method_6_code
def y_R_gateAt : MethodName := ⟨"SkiPasses$Resort", "gateAt", "(I)LSkiPasses$Gate;"⟩
abbrev m_R_gateAt : gM := ("SkiPasses$Resort", b_R_gateAt, 2, (Option.some (FieldType.object "SkiPasses$Gate")), [], false)
abbrev b_R_isShut : ByteArray := prog_6_method_20_code
def y_R_isShut : MethodName := ⟨"SkiPasses$Resort", "isShut", "(LSkiPasses$Gate;)Z"⟩
abbrev m_R_isShut : gM := ("SkiPasses$Resort", b_R_isShut, 2, (Option.some FieldType.boolean), [], false)
abbrev b_R_today : ByteArray := prog_6_method_4_code
def y_R_today : MethodName := ⟨"SkiPasses$Resort", "today", "()I"⟩
abbrev m_R_today : gM := ("SkiPasses$Resort", b_R_today, 1, (Option.some FieldType.int), [], false)
abbrev b_R_closedOn : ByteArray := prog_6_method_26_code
def y_R_closedOn : MethodName := ⟨"SkiPasses$Resort", "closedOn", "(LSkiPasses$Gate;I)I"⟩
abbrev m_R_closedOn : gM := ("SkiPasses$Resort", b_R_closedOn, 4, (Option.some FieldType.int), [], false)
abbrev b_R_closedOnAllDays : ByteArray := prog_6_method_27_code
def y_R_closedOnAllDays : MethodName := ⟨"SkiPasses$Resort", "closedOnAllDays", "(LSkiPasses$Gate;)I"⟩
abbrev m_R_closedOnAllDays : gM := ("SkiPasses$Resort", b_R_closedOnAllDays, 4, (Option.some FieldType.int), [], false)
abbrev b_R_productAt : ByteArray := prog_6_method_7_code
def y_R_productAt : MethodName := ⟨"SkiPasses$Resort", "productAt", "(I)LSkiPasses$Product;"⟩
abbrev m_R_productAt : gM := ("SkiPasses$Resort", b_R_productAt, 2, (Option.some (FieldType.object "SkiPasses$Product")), [], false)
abbrev b_R_gatesFor : ByteArray := prog_6_method_32_code
def y_R_gatesFor : MethodName := ⟨"SkiPasses$Resort", "gatesFor", "(LSkiPasses$Product;)I"⟩
abbrev m_R_gatesFor : gM := ("SkiPasses$Resort", b_R_gatesFor, 7, (Option.some FieldType.int), [], false)
abbrev b_R_cardsWith : ByteArray := prog_6_method_34_code
def y_R_cardsWith : MethodName := ⟨"SkiPasses$Resort", "cardsWith", "(LSkiPasses$Product;)I"⟩
abbrev m_R_cardsWith : gM := ("SkiPasses$Resort", b_R_cardsWith, 7, (Option.some FieldType.int), [], false)
abbrev b_R_goOn : ByteArray := prog_6_method_22_code
def y_R_goOn : MethodName := ⟨"SkiPasses$Resort", "goOn", "(I)V"⟩
abbrev m_R_goOn : gM := ("SkiPasses$Resort", b_R_goOn, 7, (Option.none : Option Jvm.ClassFile.FieldType), [], false)
abbrev b_R_countClosed : ByteArray := prog_6_method_23_code
def y_R_countClosed : MethodName := ⟨"SkiPasses$Resort", "countClosed", "(LSkiPasses$Gate;II)V"⟩
abbrev m_R_countClosed : gM := ("SkiPasses$Resort", b_R_countClosed, 6, (Option.none : Option Jvm.ClassFile.FieldType), [], false)
abbrev b_R_countedBetween : ByteArray := prog_6_method_24_code
def y_R_countedBetween : MethodName := ⟨"SkiPasses$Resort", "countedBetween", "(III)I"⟩
abbrev m_R_countedBetween : gM := ("SkiPasses$Resort", b_R_countedBetween, 5, (Option.some FieldType.int), [], false)
abbrev b_R_hour : ByteArray := prog_6_method_5_code
def y_R_hour : MethodName := ⟨"SkiPasses$Resort", "hour", "()I"⟩
abbrev m_R_hour : gM := ("SkiPasses$Resort", b_R_hour, 1, (Option.some FieldType.int), [], false)
abbrev b_R_shut : ByteArray := prog_6_method_21_code
def y_R_shut : MethodName := ⟨"SkiPasses$Resort", "shut", "(LSkiPasses$Gate;Z)V"⟩
abbrev m_R_shut : gM := ("SkiPasses$Resort", b_R_shut, 4, (Option.none : Option Jvm.ClassFile.FieldType), [], false)
abbrev b_R_isClosedFor : ByteArray := prog_6_method_28_code
def y_R_isClosedFor : MethodName := ⟨"SkiPasses$Resort", "isClosedFor", "(LSkiPasses$Product;I)Z"⟩
abbrev m_R_isClosedFor : gM := ("SkiPasses$Resort", b_R_isClosedFor, 9, (Option.some FieldType.boolean), [], false)
abbrev b_R_hasRoomForCards : ByteArray := prog_6_method_11_code
def y_R_hasRoomForCards : MethodName := ⟨"SkiPasses$Resort", "hasRoomForCards", "(I)Z"⟩
abbrev m_R_hasRoomForCards : gM := ("SkiPasses$Resort", b_R_hasRoomForCards, 2, (Option.some FieldType.boolean), [], false)
abbrev b_R_insertCards : ByteArray := prog_6_method_12_code
def y_R_insertCards : MethodName := ⟨"SkiPasses$Resort", "insertCards", "(LSkiPasses$Product;I)I"⟩
abbrev m_R_insertCards : gM := ("SkiPasses$Resort", b_R_insertCards, 5, (Option.some FieldType.int), [], false)
abbrev b_R_insertCard : ByteArray := prog_6_method_13_code
def y_R_insertCard : MethodName := ⟨"SkiPasses$Resort", "insertCard", "(LSkiPasses$Product;LSkiPasses$Ride;)I"⟩
abbrev m_R_insertCard : gM := ("SkiPasses$Resort", b_R_insertCard, 4, (Option.some FieldType.int), [], false)
abbrev b_R_putCard : ByteArray := prog_6_method_14_code
def y_R_putCard : MethodName := ⟨"SkiPasses$Resort", "putCard", "(LSkiPasses$Card;)V"⟩
abbrev m_R_putCard : gM := ("SkiPasses$Resort", b_R_putCard, 2, (Option.none : Option Jvm.ClassFile.FieldType), [], false)
abbrev b_R_cardAt : ByteArray := prog_6_method_8_code
def y_R_cardAt : MethodName := ⟨"SkiPasses$Resort", "cardAt", "(I)LSkiPasses$Card;"⟩
abbrev m_R_cardAt : gM := ("SkiPasses$Resort", b_R_cardAt, 2, (Option.some (FieldType.object "SkiPasses$Card")), [], false)
abbrev b_R_reasonAgainst : ByteArray := prog_6_method_29_code
def y_R_reasonAgainst : MethodName := ⟨"SkiPasses$Resort", "reasonAgainst", "(LSkiPasses$Card;LSkiPasses$Gate;)I"⟩
abbrev m_R_reasonAgainst : gM := ("SkiPasses$Resort", b_R_reasonAgainst, 3, (Option.some FieldType.int), [], false)
abbrev b_R_reasonOfWay : ByteArray := prog_6_method_30_code
def y_R_reasonOfWay : MethodName := ⟨"SkiPasses$Resort", "reasonOfWay", "(LSkiPasses$Ride;LSkiPasses$Gate;)I"⟩
abbrev m_R_reasonOfWay : gM := ("SkiPasses$Resort", b_R_reasonOfWay, 5, (Option.some FieldType.int), [], false)
abbrev b_R_addRide : ByteArray := prog_6_method_18_code
def y_R_addRide : MethodName := ⟨"SkiPasses$Resort", "addRide", "(LSkiPasses$Card;LSkiPasses$Gate;)I"⟩
abbrev m_R_addRide : gM := ("SkiPasses$Resort", b_R_addRide, 4, (Option.some FieldType.int), [], false)
abbrev b_R_gatesThatLetPass : ByteArray := prog_6_method_31_code
def y_R_gatesThatLetPass : MethodName := ⟨"SkiPasses$Resort", "gatesThatLetPass", "(LSkiPasses$Card;)I"⟩
abbrev m_R_gatesThatLetPass : gM := ("SkiPasses$Resort", b_R_gatesThatLetPass, 7, (Option.some FieldType.int), [], false)
abbrev b_R_setBlocked : ByteArray := prog_6_method_15_code
def y_R_setBlocked : MethodName := ⟨"SkiPasses$Resort", "setBlocked", "(LSkiPasses$Card;Z)V"⟩
abbrev m_R_setBlocked : gM := ("SkiPasses$Resort", b_R_setBlocked, 3, (Option.none : Option Jvm.ClassFile.FieldType), [], false)
abbrev b_R_exchange : ByteArray := prog_6_method_16_code
def y_R_exchange : MethodName := ⟨"SkiPasses$Resort", "exchange", "(LSkiPasses$Card;)I"⟩
abbrev m_R_exchange : gM := ("SkiPasses$Resort", b_R_exchange, 3, (Option.some FieldType.int), [], false)
abbrev b_R_lastSuccessor : ByteArray := prog_6_method_19_code
def y_R_lastSuccessor : MethodName := ⟨"SkiPasses$Resort", "lastSuccessor", "(LSkiPasses$Card;)I"⟩
abbrev m_R_lastSuccessor : gM := ("SkiPasses$Resort", b_R_lastSuccessor, 5, (Option.some FieldType.int), [], false)
abbrev b_R_refundFor : ByteArray := prog_6_method_42_code
def y_R_refundFor : MethodName := ⟨"SkiPasses$Resort", "refundFor", "(LSkiPasses$Card;)I"⟩
abbrev m_R_refundFor : gM := ("SkiPasses$Resort", b_R_refundFor, 2, (Option.some FieldType.int), [], false)
abbrev b_R_closedDaysOf : ByteArray := prog_6_method_43_code
def y_R_closedDaysOf : MethodName := ⟨"SkiPasses$Resort", "closedDaysOf", "(LSkiPasses$Card;)I"⟩
abbrev m_R_closedDaysOf : gM := ("SkiPasses$Resort", b_R_closedDaysOf, 5, (Option.some FieldType.int), [], false)
abbrev b_R_payBack : ByteArray := prog_6_method_17_code
def y_R_payBack : MethodName := ⟨"SkiPasses$Resort", "payBack", "(LSkiPasses$Card;)I"⟩
abbrev m_R_payBack : gM := ("SkiPasses$Resort", b_R_payBack, 3, (Option.some FieldType.int), [], false)
abbrev b_R_ridesAt : ByteArray := prog_6_method_40_code
def y_R_ridesAt : MethodName := ⟨"SkiPasses$Resort", "ridesAt", "(I)I"⟩
abbrev m_R_ridesAt : gM := ("SkiPasses$Resort", b_R_ridesAt, 7, (Option.some FieldType.int), [], false)
abbrev b_R_gatesOf : ByteArray := prog_6_method_33_code
def y_R_gatesOf : MethodName := ⟨"SkiPasses$Resort", "gatesOf", "(I)I"⟩
abbrev m_R_gatesOf : gM := ("SkiPasses$Resort", b_R_gatesOf, 7, (Option.some FieldType.int), [], false)
abbrev b_R_cardsSeenBy : ByteArray := prog_6_method_36_code
def y_R_cardsSeenBy : MethodName := ⟨"SkiPasses$Resort", "cardsSeenBy", "(I)I"⟩
abbrev m_R_cardsSeenBy : gM := ("SkiPasses$Resort", b_R_cardsSeenBy, 7, (Option.some FieldType.int), [], false)
abbrev b_R_allRefundable : ByteArray := prog_6_method_47_code
def y_R_allRefundable : MethodName := ⟨"SkiPasses$Resort", "allRefundable", "()I"⟩
abbrev m_R_allRefundable : gM := ("SkiPasses$Resort", b_R_allRefundable, 6, (Option.some FieldType.int), [], false)
abbrev b_R_cardsInForce : ByteArray := prog_6_method_35_code
def y_R_cardsInForce : MethodName := ⟨"SkiPasses$Resort", "cardsInForce", "()I"⟩
abbrev m_R_cardsInForce : gM := ("SkiPasses$Resort", b_R_cardsInForce, 6, (Option.some FieldType.int), [], false)
abbrev b_R_countedSoFar : ByteArray := prog_6_method_25_code
def y_R_countedSoFar : MethodName := ⟨"SkiPasses$Resort", "countedSoFar", "()I"⟩
abbrev m_R_countedSoFar : gM := ("SkiPasses$Resort", b_R_countedSoFar, 3, (Option.some FieldType.int), [], false)
abbrev b_H_init : ByteArray := prog_4_method_1_code
def y_H_init : MethodName := ⟨"SkiPasses$History", "<init>", "()V"⟩
abbrev m_H_init : gM := ("SkiPasses$History", b_H_init, 2, (Option.none : Option Jvm.ClassFile.FieldType), [], true)
abbrev b_H_forget : ByteArray := prog_4_method_7_code
def y_H_forget : MethodName := ⟨"SkiPasses$History", "forget", "()V"⟩
abbrev m_H_forget : gM := ("SkiPasses$History", b_H_forget, 1, (Option.none : Option Jvm.ClassFile.FieldType), [], false)
abbrev b_H_record : ByteArray := prog_4_method_2_code
def y_H_record : MethodName := ⟨"SkiPasses$History", "record", "(LSkiPasses$Resort;)V"⟩
abbrev m_H_record : gM := ("SkiPasses$History", b_H_record, 2, (Option.none : Option Jvm.ClassFile.FieldType), [], false)
abbrev b_H_keep : ByteArray := prog_4_method_3_code
def y_H_keep : MethodName := ⟨"SkiPasses$History", "keep", "(LSkiPasses$Resort;)V"⟩
abbrev m_H_keep : gM := ("SkiPasses$History", b_H_keep, 3, (Option.none : Option Jvm.ClassFile.FieldType), [], false)
abbrev b_H_nextPlace : ByteArray := prog_4_method_8_code
def y_H_nextPlace : MethodName := ⟨"SkiPasses$History", "nextPlace", "()LSkiPasses$Resort;"⟩
abbrev m_H_nextPlace : gM := ("SkiPasses$History", b_H_nextPlace, 1, (Option.some (FieldType.object "SkiPasses$Resort")), [], false)
abbrev b_H_commit : ByteArray := prog_4_method_4_code
def y_H_commit : MethodName := ⟨"SkiPasses$History", "commit", "()V"⟩
abbrev m_H_commit : gM := ("SkiPasses$History", b_H_commit, 1, (Option.none : Option Jvm.ClassFile.FieldType), [], false)
abbrev b_H_bringBack : ByteArray := prog_4_method_5_code
def y_H_bringBack : MethodName := ⟨"SkiPasses$History", "bringBack", "(LSkiPasses$Resort;)V"⟩
abbrev m_H_bringBack : gM := ("SkiPasses$History", b_H_bringBack, 3, (Option.none : Option Jvm.ClassFile.FieldType), [], false)
abbrev b_H_stepBack : ByteArray := prog_4_method_6_code
def y_H_stepBack : MethodName := ⟨"SkiPasses$History", "stepBack", "(LSkiPasses$Resort;)V"⟩
abbrev m_H_stepBack : gM := ("SkiPasses$History", b_H_stepBack, 2, (Option.none : Option Jvm.ClassFile.FieldType), [], false)
abbrev b_T_init : ByteArray := prog_9_method_1_code
def y_T_init : MethodName := ⟨"SkiPasses$Text", "<init>", "()V"⟩
abbrev m_T_init : gM := ("SkiPasses$Text", b_T_init, 1, (Option.none : Option Jvm.ClassFile.FieldType), [], true)
abbrev b_T_put : ByteArray := prog_9_method_3_code
def y_T_put : MethodName := ⟨"SkiPasses$Text", "put", "(I)V"⟩
abbrev m_T_put : gM := ("SkiPasses$Text", b_T_put, 2, (Option.none : Option Jvm.ClassFile.FieldType), [], false)
abbrev b_T_findError : ByteArray := prog_9_method_5_code
def y_T_findError : MethodName := ⟨"SkiPasses$Text", "findError", "()I"⟩
abbrev m_T_findError : gM := ("SkiPasses$Text", b_T_findError, 2, (Option.some FieldType.int), [], false)
abbrev b_T_rewind : ByteArray := prog_9_method_4_code
def y_T_rewind : MethodName := ⟨"SkiPasses$Text", "rewind", "()V"⟩
abbrev m_T_rewind : gM := ("SkiPasses$Text", b_T_rewind, 1, (Option.none : Option Jvm.ClassFile.FieldType), [], false)
abbrev b_T_takeOrder : ByteArray := prog_9_method_6_code
def y_T_takeOrder : MethodName := ⟨"SkiPasses$Text", "takeOrder", "()Z"⟩
abbrev m_T_takeOrder : gM := ("SkiPasses$Text", b_T_takeOrder, 1, (Option.some FieldType.boolean), [], false)
abbrev b_T_sign : ByteArray := prog_9_method_11_code
def y_T_sign : MethodName := ⟨"SkiPasses$Text", "sign", "()C"⟩
abbrev m_T_sign : gM := ("SkiPasses$Text", b_T_sign, 1, (Option.some FieldType.char), [], false)
abbrev b_T_takeSale : ByteArray := prog_9_method_8_code
def y_T_takeSale : MethodName := ⟨"SkiPasses$Text", "takeSale", "()Z"⟩
abbrev m_T_takeSale : gM := ("SkiPasses$Text", b_T_takeSale, 2, (Option.some FieldType.boolean), [], false)
abbrev b_T_takeDigit : ByteArray := prog_9_method_10_code
def y_T_takeDigit : MethodName := ⟨"SkiPasses$Text", "takeDigit", "()Z"⟩
abbrev m_T_takeDigit : gM := ("SkiPasses$Text", b_T_takeDigit, 2, (Option.some FieldType.boolean), [], false)
abbrev b_T_skip : ByteArray := prog_9_method_7_code
def y_T_skip : MethodName := ⟨"SkiPasses$Text", "skip", "(C)Z"⟩
abbrev m_T_skip : gM := ("SkiPasses$Text", b_T_skip, 3, (Option.some FieldType.boolean), [], false)
abbrev b_T_takeNumber : ByteArray := prog_9_method_9_code
def y_T_takeNumber : MethodName := ⟨"SkiPasses$Text", "takeNumber", "()Z"⟩
abbrev m_T_takeNumber : gM := ("SkiPasses$Text", b_T_takeNumber, 2, (Option.some FieldType.boolean), [], false)
abbrev b_T_empty : ByteArray := prog_9_method_2_code
def y_T_empty : MethodName := ⟨"SkiPasses$Text", "empty", "()V"⟩
abbrev m_T_empty : gM := ("SkiPasses$Text", b_T_empty, 1, (Option.none : Option Jvm.ClassFile.FieldType), [], false)
abbrev b_S_init : ByteArray := prog_8_method_1_code
def y_S_init : MethodName := ⟨"SkiPasses$Shares", "<init>", "()V"⟩
abbrev m_S_init : gM := ("SkiPasses$Shares", b_S_init, 1, (Option.none : Option Jvm.ClassFile.FieldType), [], true)
abbrev b_S_divide : ByteArray := prog_8_method_2_code
def y_S_divide : MethodName := ⟨"SkiPasses$Shares", "divide", "(LSkiPasses$Card;)V"⟩
abbrev m_S_divide : gM := ("SkiPasses$Shares", b_S_divide, 8, (Option.none : Option Jvm.ClassFile.FieldType), [], false)
abbrev b_S_partByRides : ByteArray := prog_8_method_4_code
def y_S_partByRides : MethodName := ⟨"SkiPasses$Shares", "partByRides", "(III)I"⟩
abbrev m_S_partByRides : gM := ("SkiPasses$Shares", b_S_partByRides, 3, (Option.some FieldType.int), [], false)
abbrev b_S_partOf : ByteArray := prog_8_method_3_code
def y_S_partOf : MethodName := ⟨"SkiPasses$Shares", "partOf", "(I)I"⟩
abbrev m_S_partOf : gM := ("SkiPasses$Shares", b_S_partOf, 2, (Option.some FieldType.int), [], false)
abbrev b_G_wayTo : ByteArray := prog_3_method_2_code
def y_G_wayTo : MethodName := ⟨"SkiPasses$Gate", "wayTo", "(LSkiPasses$Gate;)I"⟩
abbrev m_G_wayTo : gM := ("SkiPasses$Gate", b_G_wayTo, 3, (Option.some FieldType.int), [], false)
abbrev b_G_init : ByteArray := prog_3_method_1_code
def y_G_init : MethodName := ⟨"SkiPasses$Gate", "<init>", "(III)V"⟩
abbrev m_G_init : gM := ("SkiPasses$Gate", b_G_init, 4, (Option.none : Option Jvm.ClassFile.FieldType), [], true)
abbrev b_P_init : ByteArray := prog_5_method_1_code
def y_P_init : MethodName := ⟨"SkiPasses$Product", "<init>", "(IIIIIII)V"⟩
abbrev m_P_init : gM := ("SkiPasses$Product", b_P_init, 8, (Option.none : Option Jvm.ClassFile.FieldType), [], true)
abbrev b_P_isFor : ByteArray := prog_5_method_2_code
def y_P_isFor : MethodName := ⟨"SkiPasses$Product", "isFor", "(I)Z"⟩
abbrev m_P_isFor : gM := ("SkiPasses$Product", b_P_isFor, 2, (Option.some FieldType.boolean), [], false)
abbrev b_P_isForHour : ByteArray := prog_5_method_3_code
def y_P_isForHour : MethodName := ⟨"SkiPasses$Product", "isForHour", "(I)Z"⟩
abbrev m_P_isForHour : gM := ("SkiPasses$Product", b_P_isForHour, 2, (Option.some FieldType.boolean), [], false)
abbrev b_P_refundPerDay : ByteArray := prog_5_method_4_code
def y_P_refundPerDay : MethodName := ⟨"SkiPasses$Product", "refundPerDay", "()I"⟩
abbrev m_P_refundPerDay : gM := ("SkiPasses$Product", b_P_refundPerDay, 1, (Option.some FieldType.int), [], false)
abbrev b_I_init : ByteArray := prog_7_method_1_code
def y_I_init : MethodName := ⟨"SkiPasses$Ride", "<init>", "(LSkiPasses$Ride;LSkiPasses$Gate;I)V"⟩
abbrev m_I_init : gM := ("SkiPasses$Ride", b_I_init, 5, (Option.none : Option Jvm.ClassFile.FieldType), [], true)
abbrev b_C_price : ByteArray := prog_2_method_7_code
def y_C_price : MethodName := ⟨"SkiPasses$Card", "price", "()I"⟩
abbrev m_C_price : gM := ("SkiPasses$Card", b_C_price, 1, (Option.some FieldType.int), [], false)
abbrev b_C_ridesAt : ByteArray := prog_2_method_13_code
def y_C_ridesAt : MethodName := ⟨"SkiPasses$Card", "ridesAt", "(I)I"⟩
abbrev m_C_ridesAt : gM := ("SkiPasses$Card", b_C_ridesAt, 4, (Option.some FieldType.int), [], false)
abbrev b_C_rideCount : ByteArray := prog_2_method_8_code
def y_C_rideCount : MethodName := ⟨"SkiPasses$Card", "rideCount", "()I"⟩
abbrev m_C_rideCount : gM := ("SkiPasses$Card", b_C_rideCount, 1, (Option.some FieldType.int), [], false)
abbrev b_C_ridesThrough : ByteArray := prog_2_method_12_code
def y_C_ridesThrough : MethodName := ⟨"SkiPasses$Card", "ridesThrough", "(LSkiPasses$Gate;)I"⟩
abbrev m_C_ridesThrough : gM := ("SkiPasses$Card", b_C_ridesThrough, 4, (Option.some FieldType.int), [], false)
abbrev b_C_keepsWays : ByteArray := prog_2_method_14_code
def y_C_keepsWays : MethodName := ⟨"SkiPasses$Card", "keepsWays", "()Z"⟩
abbrev m_C_keepsWays : gM := ("SkiPasses$Card", b_C_keepsWays, 3, (Option.some FieldType.boolean), [], false)
abbrev b_C_init : ByteArray := prog_2_method_1_code
def y_C_init : MethodName := ⟨"SkiPasses$Card", "<init>", "(ILSkiPasses$Product;IIILSkiPasses$Ride;)V"⟩
abbrev m_C_init : gM := ("SkiPasses$Card", b_C_init, 7, (Option.none : Option Jvm.ClassFile.FieldType), [], true)
abbrev b_C_isValidForRideOn : ByteArray := prog_2_method_15_code
def y_C_isValidForRideOn : MethodName := ⟨"SkiPasses$Card", "isValidForRideOn", "(I)Z"⟩
abbrev m_C_isValidForRideOn : gM := ("SkiPasses$Card", b_C_isValidForRideOn, 2, (Option.some FieldType.boolean), [], false)
abbrev b_C_daysSinceFirst : ByteArray := prog_2_method_10_code
def y_C_daysSinceFirst : MethodName := ⟨"SkiPasses$Card", "daysSinceFirst", "(I)I"⟩
abbrev m_C_daysSinceFirst : gM := ("SkiPasses$Card", b_C_daysSinceFirst, 2, (Option.some FieldType.int), [], false)
abbrev b_C_dayMask : ByteArray := prog_2_method_9_code
def y_C_dayMask : MethodName := ⟨"SkiPasses$Card", "dayMask", "()I"⟩
abbrev m_C_dayMask : gM := ("SkiPasses$Card", b_C_dayMask, 1, (Option.some FieldType.int), [], false)
abbrev b_C_withRide : ByteArray := prog_2_method_2_code
def y_C_withRide : MethodName := ⟨"SkiPasses$Card", "withRide", "(LSkiPasses$Ride;)LSkiPasses$Card;"⟩
abbrev m_C_withRide : gM := ("SkiPasses$Card", b_C_withRide, 2, (Option.some (FieldType.object "SkiPasses$Card")), [], false)
abbrev b_C_isSettled : ByteArray := prog_2_method_6_code
def y_C_isSettled : MethodName := ⟨"SkiPasses$Card", "isSettled", "()Z"⟩
abbrev m_C_isSettled : gM := ("SkiPasses$Card", b_C_isSettled, 1, (Option.some FieldType.boolean), [], false)
abbrev b_C_withBlock : ByteArray := prog_2_method_3_code
def y_C_withBlock : MethodName := ⟨"SkiPasses$Card", "withBlock", "(Z)LSkiPasses$Card;"⟩
abbrev m_C_withBlock : gM := ("SkiPasses$Card", b_C_withBlock, 2, (Option.some (FieldType.object "SkiPasses$Card")), [], false)
abbrev b_C_replacedBy : ByteArray := prog_2_method_4_code
def y_C_replacedBy : MethodName := ⟨"SkiPasses$Card", "replacedBy", "(I)LSkiPasses$Card;"⟩
abbrev m_C_replacedBy : gM := ("SkiPasses$Card", b_C_replacedBy, 2, (Option.some (FieldType.object "SkiPasses$Card")), [], false)
abbrev b_C_leftOn : ByteArray := prog_2_method_16_code
def y_C_leftOn : MethodName := ⟨"SkiPasses$Card", "leftOn", "(I)I"⟩
abbrev m_C_leftOn : gM := ("SkiPasses$Card", b_C_leftOn, 2, (Option.some FieldType.int), [], false)
abbrev b_C_rideAt : ByteArray := prog_2_method_11_code
def y_C_rideAt : MethodName := ⟨"SkiPasses$Card", "rideAt", "(I)LSkiPasses$Ride;"⟩
abbrev m_C_rideAt : gM := ("SkiPasses$Card", b_C_rideAt, 3, (Option.some (FieldType.object "SkiPasses$Ride")), [], false)
abbrev b_C_paidBack : ByteArray := prog_2_method_5_code
def y_C_paidBack : MethodName := ⟨"SkiPasses$Card", "paidBack", "(I)LSkiPasses$Card;"⟩
abbrev m_C_paidBack : gM := ("SkiPasses$Card", b_C_paidBack, 2, (Option.some (FieldType.object "SkiPasses$Card")), [], false)
abbrev b_M_init : ByteArray := prog_11_method_1_code
def y_M_init : MethodName := ⟨"SkiPassesModel", "<init>", "()V"⟩
abbrev m_M_init : gM := ("SkiPassesModel", b_M_init, 1, (Option.none : Option Jvm.ClassFile.FieldType), [], true)
abbrev b_M_thrown : ByteArray := prog_11_method_2_code
def y_M_thrown : MethodName := ⟨"SkiPassesModel", "thrown", "()I"⟩
abbrev m_M_thrown : gM := ("SkiPassesModel", b_M_thrown, 1, (Option.some FieldType.int), [], false)
abbrev b_M_clear : ByteArray := prog_11_method_18_code
def y_M_clear : MethodName := ⟨"SkiPassesModel", "clear", "()I"⟩
abbrev m_M_clear : gM := ("SkiPassesModel", b_M_clear, 3, (Option.some FieldType.int), [], false)
abbrev b_M_addGate : ByteArray := prog_11_method_19_code
def y_M_addGate : MethodName := ⟨"SkiPassesModel", "addGate", "(II)I"⟩
abbrev m_M_addGate : gM := ("SkiPassesModel", b_M_addGate, 4, (Option.some FieldType.int), [], false)
abbrev b_M_isIn : ByteArray := prog_11_method_3_code
def y_M_isIn : MethodName := ⟨"SkiPassesModel", "isIn", "(III)Z"⟩
abbrev m_M_isIn : gM := ("SkiPassesModel", b_M_isIn, 3, (Option.some FieldType.boolean), [], false)
abbrev b_M_fail : ByteArray := prog_11_method_5_code
def y_M_fail : MethodName := ⟨"SkiPassesModel", "fail", "(I)I"⟩
abbrev m_M_fail : gM := ("SkiPassesModel", b_M_fail, 2, (Option.some FieldType.int), [], false)
abbrev b_M_changes : ByteArray := prog_11_method_8_code
def y_M_changes : MethodName := ⟨"SkiPassesModel", "changes", "()V"⟩
abbrev m_M_changes : gM := ("SkiPassesModel", b_M_changes, 1, (Option.none : Option Jvm.ClassFile.FieldType), [], false)
abbrev b_M_keepTried : ByteArray := prog_11_method_6_code
def y_M_keepTried : MethodName := ⟨"SkiPassesModel", "keepTried", "()V"⟩
abbrev m_M_keepTried : gM := ("SkiPassesModel", b_M_keepTried, 2, (Option.none : Option Jvm.ClassFile.FieldType), [], false)
abbrev b_M_remember : ByteArray := prog_11_method_7_code
def y_M_remember : MethodName := ⟨"SkiPassesModel", "remember", "()V"⟩
abbrev m_M_remember : gM := ("SkiPassesModel", b_M_remember, 2, (Option.none : Option Jvm.ClassFile.FieldType), [], false)
abbrev b_M_addProduct : ByteArray := prog_11_method_20_code
def y_M_addProduct : MethodName := ⟨"SkiPassesModel", "addProduct", "(IIIIII)I"⟩
abbrev m_M_addProduct : gM := ("SkiPassesModel", b_M_addProduct, 9, (Option.some FieldType.int), [], false)
abbrev b_M_gate : ByteArray := prog_11_method_24_code
def y_M_gate : MethodName := ⟨"SkiPassesModel", "gate", "(II)I"⟩
abbrev m_M_gate : gM := ("SkiPassesModel", b_M_gate, 3, (Option.some FieldType.int), [], false)
abbrev b_M_isGate : ByteArray := prog_11_method_14_code
def y_M_isGate : MethodName := ⟨"SkiPassesModel", "isGate", "(I)Z"⟩
abbrev m_M_isGate : gM := ("SkiPassesModel", b_M_isGate, 2, (Option.some FieldType.boolean), [], false)
abbrev b_M_g : ByteArray := prog_11_method_9_code
def y_M_g : MethodName := ⟨"SkiPassesModel", "g", "(II)I"⟩
abbrev m_M_g : gM := ("SkiPassesModel", b_M_g, 3, (Option.some FieldType.int), [], false)
abbrev b_M_ridesAt : ByteArray := prog_11_method_21_code
def y_M_ridesAt : MethodName := ⟨"SkiPassesModel", "ridesAt", "(I)I"⟩
abbrev m_M_ridesAt : gM := ("SkiPassesModel", b_M_ridesAt, 4, (Option.some FieldType.int), [], false)
abbrev b_M_rideOf : ByteArray := prog_11_method_13_code
def y_M_rideOf : MethodName := ⟨"SkiPassesModel", "rideOf", "(II)I"⟩
abbrev m_M_rideOf : gM := ("SkiPassesModel", b_M_rideOf, 3, (Option.some FieldType.int), [], false)
abbrev b_M_today : ByteArray := prog_11_method_17_code
def y_M_today : MethodName := ⟨"SkiPassesModel", "today", "()I"⟩
abbrev m_M_today : gM := ("SkiPassesModel", b_M_today, 1, (Option.some FieldType.int), [], false)
abbrev b_M_closedOn : ByteArray := prog_11_method_22_code
def y_M_closedOn : MethodName := ⟨"SkiPassesModel", "closedOn", "(II)I"⟩
abbrev m_M_closedOn : gM := ("SkiPassesModel", b_M_closedOn, 3, (Option.some FieldType.int), [], false)
abbrev b_M_closedInAll : ByteArray := prog_11_method_23_code
def y_M_closedInAll : MethodName := ⟨"SkiPassesModel", "closedInAll", "(I)I"⟩
abbrev m_M_closedInAll : gM := ("SkiPassesModel", b_M_closedInAll, 4, (Option.some FieldType.int), [], false)
abbrev b_M_product : ByteArray := prog_11_method_27_code
def y_M_product : MethodName := ⟨"SkiPassesModel", "product", "(II)I"⟩
abbrev m_M_product : gM := ("SkiPassesModel", b_M_product, 3, (Option.some FieldType.int), [], false)
abbrev b_M_isProduct : ByteArray := prog_11_method_15_code
def y_M_isProduct : MethodName := ⟨"SkiPassesModel", "isProduct", "(I)Z"⟩
abbrev m_M_isProduct : gM := ("SkiPassesModel", b_M_isProduct, 2, (Option.some FieldType.boolean), [], false)
abbrev b_M_p : ByteArray := prog_11_method_10_code
def y_M_p : MethodName := ⟨"SkiPassesModel", "p", "(II)I"⟩
abbrev m_M_p : gM := ("SkiPassesModel", b_M_p, 3, (Option.some FieldType.int), [], false)
abbrev b_M_gatesOf : ByteArray := prog_11_method_25_code
def y_M_gatesOf : MethodName := ⟨"SkiPassesModel", "gatesOf", "(I)I"⟩
abbrev m_M_gatesOf : gM := ("SkiPassesModel", b_M_gatesOf, 4, (Option.some FieldType.int), [], false)
abbrev b_M_has : ByteArray := prog_11_method_4_code
def y_M_has : MethodName := ⟨"SkiPassesModel", "has", "(II)Z"⟩
abbrev m_M_has : gM := ("SkiPassesModel", b_M_has, 2, (Option.some FieldType.boolean), [], false)
abbrev b_M_cardsWith : ByteArray := prog_11_method_26_code
def y_M_cardsWith : MethodName := ⟨"SkiPassesModel", "cardsWith", "(IZ)I"⟩
abbrev m_M_cardsWith : gM := ("SkiPassesModel", b_M_cardsWith, 6, (Option.some FieldType.int), [], false)
abbrev b_M_c : ByteArray := prog_11_method_11_code
def y_M_c : MethodName := ⟨"SkiPassesModel", "c", "(II)I"⟩
abbrev m_M_c : gM := ("SkiPassesModel", b_M_c, 3, (Option.some FieldType.int), [], false)
abbrev b_M_way : ByteArray := prog_11_method_29_code
def y_M_way : MethodName := ⟨"SkiPassesModel", "way", "(II)I"⟩
abbrev m_M_way : gM := ("SkiPassesModel", b_M_way, 3, (Option.some FieldType.int), [], false)
abbrev b_M_wayOf : ByteArray := prog_11_method_28_code
def y_M_wayOf : MethodName := ⟨"SkiPassesModel", "wayOf", "(II)I"⟩
abbrev m_M_wayOf : gM := ("SkiPassesModel", b_M_wayOf, 4, (Option.some FieldType.int), [], false)
abbrev b_M_advance : ByteArray := prog_11_method_32_code
def y_M_advance : MethodName := ⟨"SkiPassesModel", "advance", "(I)I"⟩
abbrev m_M_advance : gM := ("SkiPassesModel", b_M_advance, 2, (Option.some FieldType.int), [], false)
abbrev b_M_advanceProblem : ByteArray := prog_11_method_31_code
def y_M_advanceProblem : MethodName := ⟨"SkiPassesModel", "advanceProblem", "(I)I"⟩
abbrev m_M_advanceProblem : gM := ("SkiPassesModel", b_M_advanceProblem, 2, (Option.some FieldType.int), [], false)
abbrev b_M_goesOn : ByteArray := prog_11_method_30_code
def y_M_goesOn : MethodName := ⟨"SkiPassesModel", "goesOn", "(I)V"⟩
abbrev m_M_goesOn : gM := ("SkiPassesModel", b_M_goesOn, 4, (Option.none : Option Jvm.ClassFile.FieldType), [], false)
abbrev b_M_system : ByteArray := prog_11_method_34_code
def y_M_system : MethodName := ⟨"SkiPassesModel", "system", "(I)I"⟩
abbrev m_M_system : gM := ("SkiPassesModel", b_M_system, 2, (Option.some FieldType.int), [], false)
abbrev b_M_hourNow : ByteArray := prog_11_method_35_code
def y_M_hourNow : MethodName := ⟨"SkiPassesModel", "hourNow", "()I"⟩
abbrev m_M_hourNow : gM := ("SkiPassesModel", b_M_hourNow, 1, (Option.some FieldType.int), [], false)
abbrev b_M_closedGates : ByteArray := prog_11_method_33_code
def y_M_closedGates : MethodName := ⟨"SkiPassesModel", "closedGates", "()I"⟩
abbrev m_M_closedGates : gM := ("SkiPassesModel", b_M_closedGates, 3, (Option.some FieldType.int), [], false)
abbrev b_M_setClosed : ByteArray := prog_11_method_36_code
def y_M_setClosed : MethodName := ⟨"SkiPassesModel", "setClosed", "(IZ)Z"⟩
abbrev m_M_setClosed : gM := ("SkiPassesModel", b_M_setClosed, 4, (Option.some FieldType.boolean), [], false)
abbrev b_M_closedMinutes : ByteArray := prog_11_method_37_code
def y_M_closedMinutes : MethodName := ⟨"SkiPassesModel", "closedMinutes", "(II)I"⟩
abbrev m_M_closedMinutes : gM := ("SkiPassesModel", b_M_closedMinutes, 3, (Option.some FieldType.int), [], false)
abbrev b_M_isClosedDay : ByteArray := prog_11_method_39_code
def y_M_isClosedDay : MethodName := ⟨"SkiPassesModel", "isClosedDay", "(II)Z"⟩
abbrev m_M_isClosedDay : gM := ("SkiPassesModel", b_M_isClosedDay, 3, (Option.some FieldType.boolean), [], false)
abbrev b_M_isClosed : ByteArray := prog_11_method_38_code
def y_M_isClosed : MethodName := ⟨"SkiPassesModel", "isClosed", "(II)Z"⟩
abbrev m_M_isClosed : gM := ("SkiPassesModel", b_M_isClosed, 7, (Option.some FieldType.boolean), [], false)
abbrev b_M_sell : ByteArray := prog_11_method_42_code
def y_M_sell : MethodName := ⟨"SkiPassesModel", "sell", "(I)I"⟩
abbrev m_M_sell : gM := ("SkiPassesModel", b_M_sell, 2, (Option.some FieldType.int), [], false)
abbrev b_M_sellProblem : ByteArray := prog_11_method_41_code
def y_M_sellProblem : MethodName := ⟨"SkiPassesModel", "sellProblem", "(I)I"⟩
abbrev m_M_sellProblem : gM := ("SkiPassesModel", b_M_sellProblem, 2, (Option.some FieldType.int), [], false)
abbrev b_M_comesCard : ByteArray := prog_11_method_40_code
def y_M_comesCard : MethodName := ⟨"SkiPassesModel", "comesCard", "(II)I"⟩
abbrev m_M_comesCard : gM := ("SkiPassesModel", b_M_comesCard, 4, (Option.some FieldType.int), [], false)
abbrev b_M_setC : ByteArray := prog_11_method_12_code
def y_M_setC : MethodName := ⟨"SkiPassesModel", "setC", "(III)V"⟩
abbrev m_M_setC : gM := ("SkiPassesModel", b_M_setC, 4, (Option.none : Option Jvm.ClassFile.FieldType), [], false)
abbrev b_M_pass : ByteArray := prog_11_method_48_code
def y_M_pass : MethodName := ⟨"SkiPassesModel", "pass", "(II)I"⟩
abbrev m_M_pass : gM := ("SkiPassesModel", b_M_pass, 5, (Option.some FieldType.int), [], false)
abbrev b_M_isCard : ByteArray := prog_11_method_16_code
def y_M_isCard : MethodName := ⟨"SkiPassesModel", "isCard", "(I)Z"⟩
abbrev m_M_isCard : gM := ("SkiPassesModel", b_M_isCard, 2, (Option.some FieldType.boolean), [], false)
abbrev b_M_refusalBy : ByteArray := prog_11_method_47_code
def y_M_refusalBy : MethodName := ⟨"SkiPassesModel", "refusalBy", "(II)I"⟩
abbrev m_M_refusalBy : gM := ("SkiPassesModel", b_M_refusalBy, 6, (Option.some FieldType.int), [], false)
abbrev b_M_isValid : ByteArray := prog_11_method_46_code
def y_M_isValid : MethodName := ⟨"SkiPassesModel", "isValid", "(I)Z"⟩
abbrev m_M_isValid : gM := ("SkiPassesModel", b_M_isValid, 5, (Option.some FieldType.boolean), [], false)
abbrev b_M_ridesOn : ByteArray := prog_11_method_43_code
def y_M_ridesOn : MethodName := ⟨"SkiPassesModel", "ridesOn", "(I)I"⟩
abbrev m_M_ridesOn : gM := ("SkiPassesModel", b_M_ridesOn, 4, (Option.some FieldType.int), [], false)
abbrev b_M_rideAt : ByteArray := prog_11_method_44_code
def y_M_rideAt : MethodName := ⟨"SkiPassesModel", "rideAt", "(II)I"⟩
abbrev m_M_rideAt : gM := ("SkiPassesModel", b_M_rideAt, 5, (Option.some FieldType.int), [], false)
abbrev b_M_daysOf : ByteArray := prog_11_method_45_code
def y_M_daysOf : MethodName := ⟨"SkiPassesModel", "daysOf", "(IZ)I"⟩
abbrev m_M_daysOf : gM := ("SkiPassesModel", b_M_daysOf, 7, (Option.some FieldType.int), [], false)
abbrev b_M_reason : ByteArray := prog_11_method_49_code
def y_M_reason : MethodName := ⟨"SkiPassesModel", "reason", "(II)I"⟩
abbrev m_M_reason : gM := ("SkiPassesModel", b_M_reason, 3, (Option.some FieldType.int), [], false)
abbrev b_M_openGates : ByteArray := prog_11_method_50_code
def y_M_openGates : MethodName := ⟨"SkiPassesModel", "openGates", "(I)I"⟩
abbrev m_M_openGates : gM := ("SkiPassesModel", b_M_openGates, 4, (Option.some FieldType.int), [], false)
abbrev b_M_refusal : ByteArray := prog_11_method_51_code
def y_M_refusal : MethodName := ⟨"SkiPassesModel", "refusal", "(I)I"⟩
abbrev m_M_refusal : gM := ("SkiPassesModel", b_M_refusal, 3, (Option.some FieldType.int), [], false)
abbrev b_M_block : ByteArray := prog_11_method_54_code
def y_M_block : MethodName := ⟨"SkiPassesModel", "block", "(IZ)I"⟩
abbrev m_M_block : gM := ("SkiPassesModel", b_M_block, 4, (Option.some FieldType.int), [], false)
abbrev b_M_stateProblem : ByteArray := prog_11_method_53_code
def y_M_stateProblem : MethodName := ⟨"SkiPassesModel", "stateProblem", "(I)I"⟩
abbrev m_M_stateProblem : gM := ("SkiPassesModel", b_M_stateProblem, 2, (Option.some FieldType.int), [], false)
abbrev b_M_isGone : ByteArray := prog_11_method_52_code
def y_M_isGone : MethodName := ⟨"SkiPassesModel", "isGone", "(I)Z"⟩
abbrev m_M_isGone : gM := ("SkiPassesModel", b_M_isGone, 2, (Option.some FieldType.boolean), [], false)
abbrev b_M_replace : ByteArray := prog_11_method_57_code
def y_M_replace : MethodName := ⟨"SkiPassesModel", "replace", "(I)I"⟩
abbrev m_M_replace : gM := ("SkiPassesModel", b_M_replace, 2, (Option.some FieldType.int), [], false)
abbrev b_M_replaceProblem : ByteArray := prog_11_method_55_code
def y_M_replaceProblem : MethodName := ⟨"SkiPassesModel", "replaceProblem", "(I)I"⟩
abbrev m_M_replaceProblem : gM := ("SkiPassesModel", b_M_replaceProblem, 3, (Option.some FieldType.int), [], false)
abbrev b_M_replaces : ByteArray := prog_11_method_56_code
def y_M_replaces : MethodName := ⟨"SkiPassesModel", "replaces", "(I)I"⟩
abbrev m_M_replaces : gM := ("SkiPassesModel", b_M_replaces, 4, (Option.some FieldType.int), [], false)
abbrev b_M_card : ByteArray := prog_11_method_60_code
def y_M_card : MethodName := ⟨"SkiPassesModel", "card", "(II)I"⟩
abbrev m_M_card : gM := ("SkiPassesModel", b_M_card, 3, (Option.some FieldType.int), [], false)
abbrev b_M_lastOf : ByteArray := prog_11_method_58_code
def y_M_lastOf : MethodName := ⟨"SkiPassesModel", "lastOf", "(I)I"⟩
abbrev m_M_lastOf : gM := ("SkiPassesModel", b_M_lastOf, 3, (Option.some FieldType.int), [], false)
abbrev b_M_leftOn : ByteArray := prog_11_method_59_code
def y_M_leftOn : MethodName := ⟨"SkiPassesModel", "leftOn", "(I)I"⟩
abbrev m_M_leftOn : gM := ("SkiPassesModel", b_M_leftOn, 6, (Option.some FieldType.int), [], false)
abbrev b_M_ride : ByteArray := prog_11_method_61_code
def y_M_ride : MethodName := ⟨"SkiPassesModel", "ride", "(IIZ)I"⟩
abbrev m_M_ride : gM := ("SkiPassesModel", b_M_ride, 5, (Option.some FieldType.int), [], false)
abbrev b_M_refundable : ByteArray := prog_11_method_63_code
def y_M_refundable : MethodName := ⟨"SkiPassesModel", "refundable", "(I)I"⟩
abbrev m_M_refundable : gM := ("SkiPassesModel", b_M_refundable, 2, (Option.some FieldType.int), [], false)
abbrev b_M_refundOf : ByteArray := prog_11_method_62_code
def y_M_refundOf : MethodName := ⟨"SkiPassesModel", "refundOf", "(I)I"⟩
abbrev m_M_refundOf : gM := ("SkiPassesModel", b_M_refundOf, 3, (Option.some FieldType.int), [], false)
abbrev b_M_refund : ByteArray := prog_11_method_64_code
def y_M_refund : MethodName := ⟨"SkiPassesModel", "refund", "(I)I"⟩
abbrev m_M_refund : gM := ("SkiPassesModel", b_M_refund, 3, (Option.some FieldType.int), [], false)
abbrev b_M_share : ByteArray := prog_11_method_68_code
def y_M_share : MethodName := ⟨"SkiPassesModel", "share", "(II)I"⟩
abbrev m_M_share : gM := ("SkiPassesModel", b_M_share, 3, (Option.some FieldType.int), [], false)
abbrev b_M_shareOf : ByteArray := prog_11_method_67_code
def y_M_shareOf : MethodName := ⟨"SkiPassesModel", "shareOf", "(II)I"⟩
abbrev m_M_shareOf : gM := ("SkiPassesModel", b_M_shareOf, 7, (Option.some FieldType.int), [], false)
abbrev b_M_keptOf : ByteArray := prog_11_method_66_code
def y_M_keptOf : MethodName := ⟨"SkiPassesModel", "keptOf", "(I)I"⟩
abbrev m_M_keptOf : gM := ("SkiPassesModel", b_M_keptOf, 2, (Option.some FieldType.int), [], false)
abbrev b_M_ridesOf : ByteArray := prog_11_method_65_code
def y_M_ridesOf : MethodName := ⟨"SkiPassesModel", "ridesOf", "(II)I"⟩
abbrev m_M_ridesOf : gM := ("SkiPassesModel", b_M_ridesOf, 5, (Option.some FieldType.int), [], false)
abbrev b_M_partner : ByteArray := prog_11_method_73_code
def y_M_partner : MethodName := ⟨"SkiPassesModel", "partner", "(II)I"⟩
abbrev m_M_partner : gM := ("SkiPassesModel", b_M_partner, 3, (Option.some FieldType.int), [], false)
abbrev b_M_sharesOf : ByteArray := prog_11_method_69_code
def y_M_sharesOf : MethodName := ⟨"SkiPassesModel", "sharesOf", "(I)I"⟩
abbrev m_M_sharesOf : gM := ("SkiPassesModel", b_M_sharesOf, 4, (Option.some FieldType.int), [], false)
abbrev b_M_ridesOfPartner : ByteArray := prog_11_method_70_code
def y_M_ridesOfPartner : MethodName := ⟨"SkiPassesModel", "ridesOfPartner", "(I)I"⟩
abbrev m_M_ridesOfPartner : gM := ("SkiPassesModel", b_M_ridesOfPartner, 4, (Option.some FieldType.int), [], false)
abbrev b_M_gatesOfPartner : ByteArray := prog_11_method_71_code
def y_M_gatesOfPartner : MethodName := ⟨"SkiPassesModel", "gatesOfPartner", "(I)I"⟩
abbrev m_M_gatesOfPartner : gM := ("SkiPassesModel", b_M_gatesOfPartner, 4, (Option.some FieldType.int), [], false)
abbrev b_M_cardsOfPartner : ByteArray := prog_11_method_72_code
def y_M_cardsOfPartner : MethodName := ⟨"SkiPassesModel", "cardsOfPartner", "(I)I"⟩
abbrev m_M_cardsOfPartner : gM := ("SkiPassesModel", b_M_cardsOfPartner, 4, (Option.some FieldType.int), [], false)
abbrev b_M_account : ByteArray := prog_11_method_76_code
def y_M_account : MethodName := ⟨"SkiPassesModel", "account", "(I)I"⟩
abbrev m_M_account : gM := ("SkiPassesModel", b_M_account, 2, (Option.some FieldType.int), [], false)
abbrev b_M_sharesInAll : ByteArray := prog_11_method_74_code
def y_M_sharesInAll : MethodName := ⟨"SkiPassesModel", "sharesInAll", "()I"⟩
abbrev m_M_sharesInAll : gM := ("SkiPassesModel", b_M_sharesInAll, 3, (Option.some FieldType.int), [], false)
abbrev b_M_sumOf : ByteArray := prog_11_method_75_code
def y_M_sumOf : MethodName := ⟨"SkiPassesModel", "sumOf", "(I)I"⟩
abbrev m_M_sumOf : gM := ("SkiPassesModel", b_M_sumOf, 4, (Option.some FieldType.int), [], false)
abbrev b_M_meanRides : ByteArray := prog_11_method_77_code
def y_M_meanRides : MethodName := ⟨"SkiPassesModel", "meanRides", "()D"⟩
abbrev m_M_meanRides : gM := ("SkiPassesModel", b_M_meanRides, 3, (Option.some FieldType.double), [], false)
abbrev b_M_closedShare : ByteArray := prog_11_method_78_code
def y_M_closedShare : MethodName := ⟨"SkiPassesModel", "closedShare", "(I)F"⟩
abbrev m_M_closedShare : gM := ("SkiPassesModel", b_M_closedShare, 4, (Option.some FieldType.float), [], false)
abbrev b_M_isConsistent : ByteArray := prog_11_method_79_code
def y_M_isConsistent : MethodName := ⟨"SkiPassesModel", "isConsistent", "()Z"⟩
abbrev m_M_isConsistent : gM := ("SkiPassesModel", b_M_isConsistent, 7, (Option.some FieldType.boolean), [], false)
abbrev b_M_append : ByteArray := prog_11_method_80_code
def y_M_append : MethodName := ⟨"SkiPassesModel", "append", "(I)I"⟩
abbrev m_M_append : gM := ("SkiPassesModel", b_M_append, 5, (Option.some FieldType.int), [], false)
abbrev b_M_read : ByteArray := prog_11_method_89_code
def y_M_read : MethodName := ⟨"SkiPassesModel", "read", "()I"⟩
abbrev m_M_read : gM := ("SkiPassesModel", b_M_read, 4, (Option.some FieldType.int), [], false)
abbrev b_M_orders : ByteArray := prog_11_method_88_code
def y_M_orders : MethodName := ⟨"SkiPassesModel", "orders", "(Z)I"⟩
abbrev m_M_orders : gM := ("SkiPassesModel", b_M_orders, 4, (Option.some FieldType.int), [], false)
abbrev b_M_readsOrder : ByteArray := prog_11_method_85_code
def y_M_readsOrder : MethodName := ⟨"SkiPassesModel", "readsOrder", "()V"⟩
abbrev m_M_readsOrder : gM := ("SkiPassesModel", b_M_readsOrder, 1, (Option.none : Option Jvm.ClassFile.FieldType), [], false)
abbrev b_M_isLetter : ByteArray := prog_11_method_84_code
def y_M_isLetter : MethodName := ⟨"SkiPassesModel", "isLetter", "()Z"⟩
abbrev m_M_isLetter : gM := ("SkiPassesModel", b_M_isLetter, 1, (Option.some FieldType.boolean), [], false)
abbrev b_M_isAt : ByteArray := prog_11_method_81_code
def y_M_isAt : MethodName := ⟨"SkiPassesModel", "isAt", "(CC)Z"⟩
abbrev m_M_isAt : gM := ("SkiPassesModel", b_M_isAt, 3, (Option.some FieldType.boolean), [], false)
abbrev b_M_readsNumber : ByteArray := prog_11_method_83_code
def y_M_readsNumber : MethodName := ⟨"SkiPassesModel", "readsNumber", "()V"⟩
abbrev m_M_readsNumber : gM := ("SkiPassesModel", b_M_readsNumber, 3, (Option.none : Option Jvm.ClassFile.FieldType), [], false)
abbrev b_M_digit : ByteArray := prog_11_method_82_code
def y_M_digit : MethodName := ⟨"SkiPassesModel", "digit", "()I"⟩
abbrev m_M_digit : gM := ("SkiPassesModel", b_M_digit, 1, (Option.some FieldType.int), [], false)
abbrev b_M_carriesOut : ByteArray := prog_11_method_87_code
def y_M_carriesOut : MethodName := ⟨"SkiPassesModel", "carriesOut", "()Z"⟩
abbrev m_M_carriesOut : gM := ("SkiPassesModel", b_M_carriesOut, 1, (Option.some FieldType.boolean), [], false)
abbrev b_M_sells : ByteArray := prog_11_method_86_code
def y_M_sells : MethodName := ⟨"SkiPassesModel", "sells", "()Z"⟩
abbrev m_M_sells : gM := ("SkiPassesModel", b_M_sells, 2, (Option.some FieldType.boolean), [], false)
abbrev b_M_errorPosition : ByteArray := prog_11_method_90_code
def y_M_errorPosition : MethodName := ⟨"SkiPassesModel", "errorPosition", "()I"⟩
abbrev m_M_errorPosition : gM := ("SkiPassesModel", b_M_errorPosition, 1, (Option.some FieldType.int), [], false)
abbrev b_M_refusedOrder : ByteArray := prog_11_method_91_code
def y_M_refusedOrder : MethodName := ⟨"SkiPassesModel", "refusedOrder", "()I"⟩
abbrev m_M_refusedOrder : gM := ("SkiPassesModel", b_M_refusedOrder, 1, (Option.some FieldType.int), [], false)
abbrev b_M_undo : ByteArray := prog_11_method_92_code
def y_M_undo : MethodName := ⟨"SkiPassesModel", "undo", "()I"⟩
abbrev m_M_undo : gM := ("SkiPassesModel", b_M_undo, 2, (Option.some FieldType.int), [], false)
abbrev b_M_snapshot : ByteArray := prog_11_method_93_code
def y_M_snapshot : MethodName := ⟨"SkiPassesModel", "snapshot", "()I"⟩
abbrev m_M_snapshot : gM := ("SkiPassesModel", b_M_snapshot, 2, (Option.some FieldType.int), [], false)
abbrev b_M_restore : ByteArray := prog_11_method_94_code
def y_M_restore : MethodName := ⟨"SkiPassesModel", "restore", "()I"⟩
abbrev m_M_restore : gM := ("SkiPassesModel", b_M_restore, 2, (Option.some FieldType.int), [], false)
abbrev b_L_law : ByteArray := code
def y_L_law : MethodName := ⟨"SkiPassesLaw", "law", "([I)Z"⟩
abbrev m_L_law : gM := ("SkiPassesLaw", b_L_law, 9, (Option.some FieldType.boolean), [], false)
abbrev b_L_addGate : ByteArray := method_3_code
def y_L_addGate : MethodName := ⟨"SkiPassesLaw", "addGate", "(LSkiPasses;II[J)I"⟩
abbrev m_L_addGate : gM := ("SkiPassesLaw", b_L_addGate, 5, (Option.some FieldType.int), [(0, 10, 13, 13), (0, 10, 17, 15)], false)
abbrev b_L_addProduct : ByteArray := method_4_code
def y_L_addProduct : MethodName := ⟨"SkiPassesLaw", "addProduct", "(LSkiPasses;IIIIII[J)I"⟩
abbrev m_L_addProduct : gM := ("SkiPassesLaw", b_L_addProduct, 9, (Option.some FieldType.int), [(0, 18, 21, 13), (0, 18, 25, 15)], false)
abbrev b_L_gate : ByteArray := method_5_code
def y_L_gate : MethodName := ⟨"SkiPassesLaw", "gate", "(LSkiPasses;II[J)I"⟩
abbrev m_L_gate : gM := ("SkiPassesLaw", b_L_gate, 5, (Option.some FieldType.int), [(0, 10, 13, 24), (0, 10, 17, 13)], false)
abbrev b_L_product : ByteArray := method_6_code
def y_L_product : MethodName := ⟨"SkiPassesLaw", "product", "(LSkiPasses;II[J)I"⟩
abbrev m_L_product : gM := ("SkiPassesLaw", b_L_product, 5, (Option.some FieldType.int), [(0, 10, 13, 24), (0, 10, 17, 13)], false)
abbrev b_L_way : ByteArray := method_7_code
def y_L_way : MethodName := ⟨"SkiPassesLaw", "way", "(LSkiPasses;II[J)I"⟩
abbrev m_L_way : gM := ("SkiPassesLaw", b_L_way, 5, (Option.some FieldType.int), [(0, 10, 13, 24)], false)
abbrev b_L_advance : ByteArray := method_8_code
def y_L_advance : MethodName := ⟨"SkiPassesLaw", "advance", "(LSkiPasses;I[J)I"⟩
abbrev m_L_advance : gM := ("SkiPassesLaw", b_L_advance, 4, (Option.some FieldType.int), [(0, 9, 12, 13), (0, 9, 15, 15)], false)
abbrev b_L_system : ByteArray := method_9_code
def y_L_system : MethodName := ⟨"SkiPassesLaw", "system", "(LSkiPasses;I[J)I"⟩
abbrev m_L_system : gM := ("SkiPassesLaw", b_L_system, 4, (Option.some FieldType.int), [(0, 9, 12, 13)], false)
abbrev b_L_setClosed : ByteArray := method_10_code
def y_L_setClosed : MethodName := ⟨"SkiPassesLaw", "setClosed", "(LSkiPasses;IZ[J)I"⟩
abbrev m_L_setClosed : gM := ("SkiPassesLaw", b_L_setClosed, 5, (Option.some FieldType.int), [(0, 17, 20, 24)], false)
abbrev b_L_closedMinutes : ByteArray := method_11_code
def y_L_closedMinutes : MethodName := ⟨"SkiPassesLaw", "closedMinutes", "(LSkiPasses;II[J)I"⟩
abbrev m_L_closedMinutes : gM := ("SkiPassesLaw", b_L_closedMinutes, 5, (Option.some FieldType.int), [(0, 10, 13, 24), (0, 10, 17, 13)], false)
abbrev b_L_isClosedDay : ByteArray := method_12_code
def y_L_isClosedDay : MethodName := ⟨"SkiPassesLaw", "isClosedDay", "(LSkiPasses;II[J)I"⟩
abbrev m_L_isClosedDay : gM := ("SkiPassesLaw", b_L_isClosedDay, 5, (Option.some FieldType.int), [(0, 17, 20, 24), (0, 17, 24, 13)], false)
abbrev b_L_sell : ByteArray := method_13_code
def y_L_sell : MethodName := ⟨"SkiPassesLaw", "sell", "(LSkiPasses;I[J)I"⟩
abbrev m_L_sell : gM := ("SkiPassesLaw", b_L_sell, 4, (Option.some FieldType.int), [(0, 9, 12, 24), (0, 9, 15, 15)], false)
abbrev b_L_pass : ByteArray := method_14_code
def y_L_pass : MethodName := ⟨"SkiPassesLaw", "pass", "(LSkiPasses;II[J)I"⟩
abbrev m_L_pass : gM := ("SkiPassesLaw", b_L_pass, 5, (Option.some FieldType.int), [(0, 10, 13, 24), (0, 10, 17, 56)], false)
abbrev b_L_reason : ByteArray := method_15_code
def y_L_reason : MethodName := ⟨"SkiPassesLaw", "reason", "(LSkiPasses;II[J)I"⟩
abbrev m_L_reason : gM := ("SkiPassesLaw", b_L_reason, 5, (Option.some FieldType.int), [(0, 10, 13, 24)], false)
abbrev b_L_openGates : ByteArray := method_16_code
def y_L_openGates : MethodName := ⟨"SkiPassesLaw", "openGates", "(LSkiPasses;I[J)I"⟩
abbrev m_L_openGates : gM := ("SkiPassesLaw", b_L_openGates, 4, (Option.some FieldType.int), [(0, 9, 12, 24)], false)
abbrev b_L_refusal : ByteArray := method_17_code
def y_L_refusal : MethodName := ⟨"SkiPassesLaw", "refusal", "(LSkiPasses;I[J)I"⟩
abbrev m_L_refusal : gM := ("SkiPassesLaw", b_L_refusal, 4, (Option.some FieldType.int), [(0, 9, 12, 15), (0, 9, 15, 67)], false)
abbrev b_L_block : ByteArray := method_18_code
def y_L_block : MethodName := ⟨"SkiPassesLaw", "block", "(LSkiPasses;IZ[J)I"⟩
abbrev m_L_block : gM := ("SkiPassesLaw", b_L_block, 5, (Option.some FieldType.int), [(0, 10, 13, 24), (0, 10, 17, 15)], false)
abbrev b_L_replace : ByteArray := method_19_code
def y_L_replace : MethodName := ⟨"SkiPassesLaw", "replace", "(LSkiPasses;I[J)I"⟩
abbrev m_L_replace : gM := ("SkiPassesLaw", b_L_replace, 4, (Option.some FieldType.int), [(0, 9, 12, 24), (0, 9, 15, 15)], false)
abbrev b_L_card : ByteArray := method_20_code
def y_L_card : MethodName := ⟨"SkiPassesLaw", "card", "(LSkiPasses;II[J)I"⟩
abbrev m_L_card : gM := ("SkiPassesLaw", b_L_card, 5, (Option.some FieldType.int), [(0, 10, 13, 24), (0, 10, 17, 13)], false)
abbrev b_L_ride : ByteArray := method_21_code
def y_L_ride : MethodName := ⟨"SkiPassesLaw", "ride", "(LSkiPasses;IIZ[J)I"⟩
abbrev m_L_ride : gM := ("SkiPassesLaw", b_L_ride, 6, (Option.some FieldType.int), [(0, 12, 15, 24), (0, 12, 19, 67)], false)
abbrev b_L_refundable : ByteArray := method_22_code
def y_L_refundable : MethodName := ⟨"SkiPassesLaw", "refundable", "(LSkiPasses;I[J)I"⟩
abbrev m_L_refundable : gM := ("SkiPassesLaw", b_L_refundable, 4, (Option.some FieldType.int), [(0, 9, 12, 24)], false)
abbrev b_L_refund : ByteArray := method_23_code
def y_L_refund : MethodName := ⟨"SkiPassesLaw", "refund", "(LSkiPasses;I[J)I"⟩
abbrev m_L_refund : gM := ("SkiPassesLaw", b_L_refund, 4, (Option.some FieldType.int), [(0, 9, 12, 24), (0, 9, 15, 15)], false)
abbrev b_L_share : ByteArray := method_24_code
def y_L_share : MethodName := ⟨"SkiPassesLaw", "share", "(LSkiPasses;II[J)I"⟩
abbrev m_L_share : gM := ("SkiPassesLaw", b_L_share, 5, (Option.some FieldType.int), [(0, 10, 13, 24)], false)
abbrev b_L_partner : ByteArray := method_25_code
def y_L_partner : MethodName := ⟨"SkiPassesLaw", "partner", "(LSkiPasses;II[J)I"⟩
abbrev m_L_partner : gM := ("SkiPassesLaw", b_L_partner, 5, (Option.some FieldType.int), [(0, 10, 13, 24), (0, 10, 17, 13)], false)
abbrev b_L_account : ByteArray := method_26_code
def y_L_account : MethodName := ⟨"SkiPassesLaw", "account", "(LSkiPasses;I[J)I"⟩
abbrev m_L_account : gM := ("SkiPassesLaw", b_L_account, 4, (Option.some FieldType.int), [(0, 9, 12, 13)], false)
abbrev b_L_meanRides : ByteArray := method_27_code
def y_L_meanRides : MethodName := ⟨"SkiPassesLaw", "meanRides", "(LSkiPasses;[D)I"⟩
abbrev m_L_meanRides : gM := ("SkiPassesLaw", b_L_meanRides, 3, (Option.some FieldType.int), [(0, 7, 10, 102)], false)
abbrev b_L_closedShare : ByteArray := method_28_code
def y_L_closedShare : MethodName := ⟨"SkiPassesLaw", "closedShare", "(LSkiPasses;I[D)I"⟩
abbrev m_L_closedShare : gM := ("SkiPassesLaw", b_L_closedShare, 4, (Option.some FieldType.int), [(0, 9, 12, 24), (0, 9, 15, 102)], false)
abbrev b_L_append : ByteArray := method_29_code
def y_L_append : MethodName := ⟨"SkiPassesLaw", "append", "(LSkiPasses;I[J)I"⟩
abbrev m_L_append : gM := ("SkiPassesLaw", b_L_append, 4, (Option.some FieldType.int), [(0, 9, 12, 13), (0, 9, 15, 15)], false)
abbrev b_L_read : ByteArray := method_30_code
def y_L_read : MethodName := ⟨"SkiPassesLaw", "read", "(LSkiPasses;[J)I"⟩
abbrev m_L_read : gM := ("SkiPassesLaw", b_L_read, 3, (Option.some FieldType.int), [(0, 8, 11, 13), (0, 8, 14, 56)], false)
abbrev b_L_errorPosition : ByteArray := method_31_code
def y_L_errorPosition : MethodName := ⟨"SkiPassesLaw", "errorPosition", "(LSkiPasses;[J)I"⟩
abbrev m_L_errorPosition : gM := ("SkiPassesLaw", b_L_errorPosition, 3, (Option.some FieldType.int), [(0, 8, 11, 67)], false)
abbrev b_L_refusedOrder : ByteArray := method_32_code
def y_L_refusedOrder : MethodName := ⟨"SkiPassesLaw", "refusedOrder", "(LSkiPasses;[J)I"⟩
abbrev m_L_refusedOrder : gM := ("SkiPassesLaw", b_L_refusedOrder, 3, (Option.some FieldType.int), [(0, 8, 11, 67)], false)
abbrev b_L_undo : ByteArray := method_33_code
def y_L_undo : MethodName := ⟨"SkiPassesLaw", "undo", "(LSkiPasses;[J)I"⟩
abbrev m_L_undo : gM := ("SkiPassesLaw", b_L_undo, 3, (Option.some FieldType.int), [(0, 8, 11, 15)], false)
abbrev b_L_restore : ByteArray := method_34_code
def y_L_restore : MethodName := ⟨"SkiPassesLaw", "restore", "(LSkiPasses;[J)I"⟩
abbrev m_L_restore : gM := ("SkiPassesLaw", b_L_restore, 3, (Option.some FieldType.int), [(0, 8, 11, 15)], false)
abbrev b_J_numberOfTrailingZeros : ByteArray := prog_19_method_48_code
def y_J_numberOfTrailingZeros : MethodName := ⟨"java/lang/Integer", "numberOfTrailingZeros", "(I)I"⟩
abbrev m_J_numberOfTrailingZeros : gM := ("java/lang/Integer", b_J_numberOfTrailingZeros, 2, (Option.some FieldType.int), [], false)
abbrev b_J_bitCount : ByteArray := prog_19_method_49_code
def y_J_bitCount : MethodName := ⟨"java/lang/Integer", "bitCount", "(I)I"⟩
abbrev m_J_bitCount : gM := ("java/lang/Integer", b_J_bitCount, 1, (Option.some FieldType.int), [], false)
abbrev b_A_fill : ByteArray := prog_26_method_103_code
def y_A_fill : MethodName := ⟨"java/util/Arrays", "fill", "([II)V"⟩
abbrev m_A_fill : gM := ("java/util/Arrays", b_A_fill, 4, (Option.none : Option Jvm.ClassFile.FieldType), [], false)
theorem e_X_init : g_me y_X_init m_X_init 0 := ⟨by decide +kernel, by decide +kernel, by decide +kernel, g_mem 108 (by decide +kernel) (by decide +kernel), g_mem 79 (by decide +kernel) rfl, by decide, fun _ _ h => h⟩
theorem is_X_init : Cond.instanceMethod y_X_init ∈ g_all ∧ y_X_init.name = "<init>" := ⟨g_mem 107 (by decide +kernel) rfl, rfl⟩
theorem e_X_clear : g_me y_X_clear m_X_clear 0 := ⟨by decide +kernel, by decide +kernel, by decide +kernel, g_mem 254 (by decide +kernel) (by decide +kernel), g_mem 79 (by decide +kernel) rfl, by decide, fun _ _ h => h⟩
theorem iv_X_clear : Cond.instanceMethod y_X_clear ∈ g_all ∧ Cond.selects y_X_clear.cls y_X_clear y_X_clear ∈ g_all := ⟨g_mem 252 (by decide +kernel) rfl, g_mem 253 (by decide +kernel) rfl⟩
theorem e_X_isConsistent : g_me y_X_isConsistent m_X_isConsistent 0 := ⟨by decide +kernel, by decide +kernel, by decide +kernel, g_mem 269 (by decide +kernel) (by decide +kernel), g_mem 79 (by decide +kernel) rfl, by decide, fun _ _ h => h⟩
theorem iv_X_isConsistent : Cond.instanceMethod y_X_isConsistent ∈ g_all ∧ Cond.selects y_X_isConsistent.cls y_X_isConsistent y_X_isConsistent ∈ g_all := ⟨g_mem 267 (by decide +kernel) rfl, g_mem 268 (by decide +kernel) rfl⟩
theorem e_X_allShares : g_me y_X_allShares m_X_allShares 0 := ⟨by decide +kernel, by decide +kernel, by decide +kernel, g_mem 285 (by decide +kernel) (by decide +kernel), g_mem 79 (by decide +kernel) rfl, by decide, fun _ _ h => h⟩
theorem iv_X_allShares : Cond.instanceMethod y_X_allShares ∈ g_all ∧ Cond.selects y_X_allShares.cls y_X_allShares y_X_allShares ∈ g_all := ⟨g_mem 284 (by decide +kernel) rfl, g_mem 0 (by decide +kernel) rfl⟩
theorem e_X_sharesOf : g_me y_X_sharesOf m_X_sharesOf 1 := ⟨by decide +kernel, by decide +kernel, by decide +kernel, g_mem 289 (by decide +kernel) (by decide +kernel), g_mem 79 (by decide +kernel) rfl, by decide, fun _ _ h => h⟩
theorem iv_X_sharesOf : Cond.instanceMethod y_X_sharesOf ∈ g_all ∧ Cond.selects y_X_sharesOf.cls y_X_sharesOf y_X_sharesOf ∈ g_all := ⟨g_mem 288 (by decide +kernel) rfl, g_mem 1 (by decide +kernel) rfl⟩
theorem e_X_snapshot : g_me y_X_snapshot m_X_snapshot 0 := ⟨by decide +kernel, by decide +kernel, by decide +kernel, g_mem 349 (by decide +kernel) (by decide +kernel), g_mem 79 (by decide +kernel) rfl, by decide, fun _ _ h => h⟩
theorem iv_X_snapshot : Cond.instanceMethod y_X_snapshot ∈ g_all ∧ Cond.selects y_X_snapshot.cls y_X_snapshot y_X_snapshot ∈ g_all := ⟨g_mem 347 (by decide +kernel) rfl, g_mem 348 (by decide +kernel) rfl⟩
theorem e_X_addGate : g_me y_X_addGate m_X_addGate 2 := ⟨by decide +kernel, by decide +kernel, by decide +kernel, g_mem 368 (by decide +kernel) (by decide +kernel), g_mem 79 (by decide +kernel) rfl, by decide, fun _ _ h => h⟩
theorem iv_X_addGate : Cond.instanceMethod y_X_addGate ∈ g_all ∧ Cond.selects y_X_addGate.cls y_X_addGate y_X_addGate ∈ g_all := ⟨g_mem 366 (by decide +kernel) rfl, g_mem 367 (by decide +kernel) rfl⟩
theorem e_X_isPartner : g_me y_X_isPartner m_X_isPartner 1 := ⟨by decide +kernel, by decide +kernel, by decide +kernel, g_mem 371 (by decide +kernel) (by decide +kernel), g_mem 79 (by decide +kernel) rfl, by decide, fun _ _ h => h⟩
theorem st_X_isPartner : Cond.static y_X_isPartner ∈ g_all := g_mem 370 (by decide +kernel) rfl
theorem e_X_isBetween : g_me y_X_isBetween m_X_isBetween 3 := ⟨by decide +kernel, by decide +kernel, by decide +kernel, g_mem 374 (by decide +kernel) (by decide +kernel), g_mem 79 (by decide +kernel) rfl, by decide, fun _ _ h => h⟩
theorem st_X_isBetween : Cond.static y_X_isBetween ∈ g_all := g_mem 373 (by decide +kernel) rfl
theorem e_X_addProduct : g_me y_X_addProduct m_X_addProduct 6 := ⟨by decide +kernel, by decide +kernel, by decide +kernel, g_mem 514 (by decide +kernel) (by decide +kernel), g_mem 79 (by decide +kernel) rfl, by decide, fun _ _ h => h⟩
theorem iv_X_addProduct : Cond.instanceMethod y_X_addProduct ∈ g_all ∧ Cond.selects y_X_addProduct.cls y_X_addProduct y_X_addProduct ∈ g_all := ⟨g_mem 512 (by decide +kernel) rfl, g_mem 513 (by decide +kernel) rfl⟩
theorem e_X_gate : g_me y_X_gate m_X_gate 2 := ⟨by decide +kernel, by decide +kernel, by decide +kernel, g_mem 590 (by decide +kernel) (by decide +kernel), g_mem 79 (by decide +kernel) rfl, by decide, fun _ _ h => h⟩
theorem iv_X_gate : Cond.instanceMethod y_X_gate ∈ g_all ∧ Cond.selects y_X_gate.cls y_X_gate y_X_gate ∈ g_all := ⟨g_mem 588 (by decide +kernel) rfl, g_mem 589 (by decide +kernel) rfl⟩
theorem e_X_existingGate : g_me y_X_existingGate m_X_existingGate 1 := ⟨by decide +kernel, by decide +kernel, by decide +kernel, g_mem 594 (by decide +kernel) (by decide +kernel), g_mem 79 (by decide +kernel) rfl, by decide, fun _ _ h => h⟩
theorem iv_X_existingGate : Cond.instanceMethod y_X_existingGate ∈ g_all ∧ Cond.selects y_X_existingGate.cls y_X_existingGate y_X_existingGate ∈ g_all := ⟨g_mem 593 (by decide +kernel) rfl, g_mem 4 (by decide +kernel) rfl⟩
theorem e_X_product : g_me y_X_product m_X_product 2 := ⟨by decide +kernel, by decide +kernel, by decide +kernel, g_mem 637 (by decide +kernel) (by decide +kernel), g_mem 79 (by decide +kernel) rfl, by decide, fun _ _ h => h⟩
theorem iv_X_product : Cond.instanceMethod y_X_product ∈ g_all ∧ Cond.selects y_X_product.cls y_X_product y_X_product ∈ g_all := ⟨g_mem 635 (by decide +kernel) rfl, g_mem 636 (by decide +kernel) rfl⟩
theorem e_X_existingProduct : g_me y_X_existingProduct m_X_existingProduct 1 := ⟨by decide +kernel, by decide +kernel, by decide +kernel, g_mem 641 (by decide +kernel) (by decide +kernel), g_mem 79 (by decide +kernel) rfl, by decide, fun _ _ h => h⟩
theorem iv_X_existingProduct : Cond.instanceMethod y_X_existingProduct ∈ g_all ∧ Cond.selects y_X_existingProduct.cls y_X_existingProduct y_X_existingProduct ∈ g_all := ⟨g_mem 640 (by decide +kernel) rfl, g_mem 5 (by decide +kernel) rfl⟩
theorem e_X_way : g_me y_X_way m_X_way 2 := ⟨by decide +kernel, by decide +kernel, by decide +kernel, g_mem 666 (by decide +kernel) (by decide +kernel), g_mem 79 (by decide +kernel) rfl, by decide, fun _ _ h => h⟩
theorem iv_X_way : Cond.instanceMethod y_X_way ∈ g_all ∧ Cond.selects y_X_way.cls y_X_way y_X_way ∈ g_all := ⟨g_mem 664 (by decide +kernel) rfl, g_mem 665 (by decide +kernel) rfl⟩
theorem e_X_advance : g_me y_X_advance m_X_advance 1 := ⟨by decide +kernel, by decide +kernel, by decide +kernel, g_mem 674 (by decide +kernel) (by decide +kernel), g_mem 79 (by decide +kernel) rfl, by decide, fun _ _ h => h⟩
theorem iv_X_advance : Cond.instanceMethod y_X_advance ∈ g_all ∧ Cond.selects y_X_advance.cls y_X_advance y_X_advance ∈ g_all := ⟨g_mem 672 (by decide +kernel) rfl, g_mem 673 (by decide +kernel) rfl⟩
theorem e_X_system : g_me y_X_system m_X_system 1 := ⟨by decide +kernel, by decide +kernel, by decide +kernel, g_mem 699 (by decide +kernel) (by decide +kernel), g_mem 79 (by decide +kernel) rfl, by decide, fun _ _ h => h⟩
theorem iv_X_system : Cond.instanceMethod y_X_system ∈ g_all ∧ Cond.selects y_X_system.cls y_X_system y_X_system ∈ g_all := ⟨g_mem 697 (by decide +kernel) rfl, g_mem 698 (by decide +kernel) rfl⟩
theorem e_X_setClosed : g_me y_X_setClosed m_X_setClosed 2 := ⟨by decide +kernel, by decide +kernel, by decide +kernel, g_mem 711 (by decide +kernel) (by decide +kernel), g_mem 79 (by decide +kernel) rfl, by decide, fun _ _ h => h⟩
theorem iv_X_setClosed : Cond.instanceMethod y_X_setClosed ∈ g_all ∧ Cond.selects y_X_setClosed.cls y_X_setClosed y_X_setClosed ∈ g_all := ⟨g_mem 709 (by decide +kernel) rfl, g_mem 710 (by decide +kernel) rfl⟩
theorem e_X_closedMinutes : g_me y_X_closedMinutes m_X_closedMinutes 2 := ⟨by decide +kernel, by decide +kernel, by decide +kernel, g_mem 722 (by decide +kernel) (by decide +kernel), g_mem 79 (by decide +kernel) rfl, by decide, fun _ _ h => h⟩
theorem iv_X_closedMinutes : Cond.instanceMethod y_X_closedMinutes ∈ g_all ∧ Cond.selects y_X_closedMinutes.cls y_X_closedMinutes y_X_closedMinutes ∈ g_all := ⟨g_mem 720 (by decide +kernel) rfl, g_mem 721 (by decide +kernel) rfl⟩
theorem e_X_isDay : g_me y_X_isDay m_X_isDay 1 := ⟨by decide +kernel, by decide +kernel, by decide +kernel, g_mem 725 (by decide +kernel) (by decide +kernel), g_mem 79 (by decide +kernel) rfl, by decide, fun _ _ h => h⟩
theorem st_X_isDay : Cond.static y_X_isDay ∈ g_all := g_mem 724 (by decide +kernel) rfl
theorem e_X_isClosedDay : g_me y_X_isClosedDay m_X_isClosedDay 2 := ⟨by decide +kernel, by decide +kernel, by decide +kernel, g_mem 733 (by decide +kernel) (by decide +kernel), g_mem 79 (by decide +kernel) rfl, by decide, fun _ _ h => h⟩
theorem iv_X_isClosedDay : Cond.instanceMethod y_X_isClosedDay ∈ g_all ∧ Cond.selects y_X_isClosedDay.cls y_X_isClosedDay y_X_isClosedDay ∈ g_all := ⟨g_mem 731 (by decide +kernel) rfl, g_mem 732 (by decide +kernel) rfl⟩
theorem e_X_sell : g_me y_X_sell m_X_sell 1 := ⟨by decide +kernel, by decide +kernel, by decide +kernel, g_mem 744 (by decide +kernel) (by decide +kernel), g_mem 79 (by decide +kernel) rfl, by decide, fun _ _ h => h⟩
theorem iv_X_sell : Cond.instanceMethod y_X_sell ∈ g_all ∧ Cond.selects y_X_sell.cls y_X_sell y_X_sell ∈ g_all := ⟨g_mem 742 (by decide +kernel) rfl, g_mem 743 (by decide +kernel) rfl⟩
theorem e_X_pass : g_me y_X_pass m_X_pass 2 := ⟨by decide +kernel, by decide +kernel, by decide +kernel, g_mem 804 (by decide +kernel) (by decide +kernel), g_mem 79 (by decide +kernel) rfl, by decide, fun _ _ h => h⟩
theorem iv_X_pass : Cond.instanceMethod y_X_pass ∈ g_all ∧ Cond.selects y_X_pass.cls y_X_pass y_X_pass ∈ g_all := ⟨g_mem 802 (by decide +kernel) rfl, g_mem 803 (by decide +kernel) rfl⟩
theorem e_X_existingCard : g_me y_X_existingCard m_X_existingCard 1 := ⟨by decide +kernel, by decide +kernel, by decide +kernel, g_mem 808 (by decide +kernel) (by decide +kernel), g_mem 79 (by decide +kernel) rfl, by decide, fun _ _ h => h⟩
theorem iv_X_existingCard : Cond.instanceMethod y_X_existingCard ∈ g_all ∧ Cond.selects y_X_existingCard.cls y_X_existingCard y_X_existingCard ∈ g_all := ⟨g_mem 807 (by decide +kernel) rfl, g_mem 9 (by decide +kernel) rfl⟩
theorem e_X_reason : g_me y_X_reason m_X_reason 2 := ⟨by decide +kernel, by decide +kernel, by decide +kernel, g_mem 917 (by decide +kernel) (by decide +kernel), g_mem 79 (by decide +kernel) rfl, by decide, fun _ _ h => h⟩
theorem iv_X_reason : Cond.instanceMethod y_X_reason ∈ g_all ∧ Cond.selects y_X_reason.cls y_X_reason y_X_reason ∈ g_all := ⟨g_mem 915 (by decide +kernel) rfl, g_mem 916 (by decide +kernel) rfl⟩
theorem e_X_openGates : g_me y_X_openGates m_X_openGates 1 := ⟨by decide +kernel, by decide +kernel, by decide +kernel, g_mem 924 (by decide +kernel) (by decide +kernel), g_mem 79 (by decide +kernel) rfl, by decide, fun _ _ h => h⟩
theorem iv_X_openGates : Cond.instanceMethod y_X_openGates ∈ g_all ∧ Cond.selects y_X_openGates.cls y_X_openGates y_X_openGates ∈ g_all := ⟨g_mem 922 (by decide +kernel) rfl, g_mem 923 (by decide +kernel) rfl⟩
theorem e_X_refusal : g_me y_X_refusal m_X_refusal 1 := ⟨by decide +kernel, by decide +kernel, by decide +kernel, g_mem 937 (by decide +kernel) (by decide +kernel), g_mem 79 (by decide +kernel) rfl, by decide, fun _ _ h => h⟩
theorem iv_X_refusal : Cond.instanceMethod y_X_refusal ∈ g_all ∧ Cond.selects y_X_refusal.cls y_X_refusal y_X_refusal ∈ g_all := ⟨g_mem 935 (by decide +kernel) rfl, g_mem 936 (by decide +kernel) rfl⟩
theorem e_X_numberInChain : g_me y_X_numberInChain m_X_numberInChain 2 := ⟨by decide +kernel, by decide +kernel, by decide +kernel, g_mem 941 (by decide +kernel) (by decide +kernel), g_mem 79 (by decide +kernel) rfl, by decide, fun _ _ h => h⟩
theorem st_X_numberInChain : Cond.static y_X_numberInChain ∈ g_all := g_mem 940 (by decide +kernel) rfl
theorem e_X_block : g_me y_X_block m_X_block 2 := ⟨by decide +kernel, by decide +kernel, by decide +kernel, g_mem 965 (by decide +kernel) (by decide +kernel), g_mem 79 (by decide +kernel) rfl, by decide, fun _ _ h => h⟩
theorem iv_X_block : Cond.instanceMethod y_X_block ∈ g_all ∧ Cond.selects y_X_block.cls y_X_block y_X_block ∈ g_all := ⟨g_mem 963 (by decide +kernel) rfl, g_mem 964 (by decide +kernel) rfl⟩
theorem e_X_replace : g_me y_X_replace m_X_replace 1 := ⟨by decide +kernel, by decide +kernel, by decide +kernel, g_mem 985 (by decide +kernel) (by decide +kernel), g_mem 79 (by decide +kernel) rfl, by decide, fun _ _ h => h⟩
theorem iv_X_replace : Cond.instanceMethod y_X_replace ∈ g_all ∧ Cond.selects y_X_replace.cls y_X_replace y_X_replace ∈ g_all := ⟨g_mem 983 (by decide +kernel) rfl, g_mem 984 (by decide +kernel) rfl⟩
theorem e_X_card : g_me y_X_card m_X_card 2 := ⟨by decide +kernel, by decide +kernel, by decide +kernel, g_mem 1001 (by decide +kernel) (by decide +kernel), g_mem 79 (by decide +kernel) rfl, by decide, fun _ _ h => h⟩
theorem iv_X_card : Cond.instanceMethod y_X_card ∈ g_all ∧ Cond.selects y_X_card.cls y_X_card y_X_card ∈ g_all := ⟨g_mem 999 (by decide +kernel) rfl, g_mem 1000 (by decide +kernel) rfl⟩
theorem e_X_ride : g_me y_X_ride m_X_ride 3 := ⟨by decide +kernel, by decide +kernel, by decide +kernel, g_mem 1023 (by decide +kernel) (by decide +kernel), g_mem 79 (by decide +kernel) rfl, by decide, fun _ _ h => h⟩
theorem iv_X_ride : Cond.instanceMethod y_X_ride ∈ g_all ∧ Cond.selects y_X_ride.cls y_X_ride y_X_ride ∈ g_all := ⟨g_mem 1021 (by decide +kernel) rfl, g_mem 1022 (by decide +kernel) rfl⟩
theorem e_X_refundable : g_me y_X_refundable m_X_refundable 1 := ⟨by decide +kernel, by decide +kernel, by decide +kernel, g_mem 1035 (by decide +kernel) (by decide +kernel), g_mem 79 (by decide +kernel) rfl, by decide, fun _ _ h => h⟩
theorem iv_X_refundable : Cond.instanceMethod y_X_refundable ∈ g_all ∧ Cond.selects y_X_refundable.cls y_X_refundable y_X_refundable ∈ g_all := ⟨g_mem 1033 (by decide +kernel) rfl, g_mem 1034 (by decide +kernel) rfl⟩
theorem e_X_refund : g_me y_X_refund m_X_refund 1 := ⟨by decide +kernel, by decide +kernel, by decide +kernel, g_mem 1057 (by decide +kernel) (by decide +kernel), g_mem 79 (by decide +kernel) rfl, by decide, fun _ _ h => h⟩
theorem iv_X_refund : Cond.instanceMethod y_X_refund ∈ g_all ∧ Cond.selects y_X_refund.cls y_X_refund y_X_refund ∈ g_all := ⟨g_mem 1055 (by decide +kernel) rfl, g_mem 1056 (by decide +kernel) rfl⟩
theorem e_X_share : g_me y_X_share m_X_share 2 := ⟨by decide +kernel, by decide +kernel, by decide +kernel, g_mem 1073 (by decide +kernel) (by decide +kernel), g_mem 79 (by decide +kernel) rfl, by decide, fun _ _ h => h⟩
theorem iv_X_share : Cond.instanceMethod y_X_share ∈ g_all ∧ Cond.selects y_X_share.cls y_X_share y_X_share ∈ g_all := ⟨g_mem 1071 (by decide +kernel) rfl, g_mem 1072 (by decide +kernel) rfl⟩
theorem e_X_requirePartner : g_me y_X_requirePartner m_X_requirePartner 1 := ⟨by decide +kernel, by decide +kernel, by decide +kernel, g_mem 1076 (by decide +kernel) (by decide +kernel), g_mem 79 (by decide +kernel) rfl, by decide, fun _ _ h => h⟩
theorem st_X_requirePartner : Cond.static y_X_requirePartner ∈ g_all := g_mem 1075 (by decide +kernel) rfl
theorem e_X_partner : g_me y_X_partner m_X_partner 2 := ⟨by decide +kernel, by decide +kernel, by decide +kernel, g_mem 1084 (by decide +kernel) (by decide +kernel), g_mem 79 (by decide +kernel) rfl, by decide, fun _ _ h => h⟩
theorem iv_X_partner : Cond.instanceMethod y_X_partner ∈ g_all ∧ Cond.selects y_X_partner.cls y_X_partner y_X_partner ∈ g_all := ⟨g_mem 1082 (by decide +kernel) rfl, g_mem 1083 (by decide +kernel) rfl⟩
theorem e_X_account : g_me y_X_account m_X_account 1 := ⟨by decide +kernel, by decide +kernel, by decide +kernel, g_mem 1105 (by decide +kernel) (by decide +kernel), g_mem 79 (by decide +kernel) rfl, by decide, fun _ _ h => h⟩
theorem iv_X_account : Cond.instanceMethod y_X_account ∈ g_all ∧ Cond.selects y_X_account.cls y_X_account y_X_account ∈ g_all := ⟨g_mem 1103 (by decide +kernel) rfl, g_mem 1104 (by decide +kernel) rfl⟩
theorem e_X_meanRides : g_me y_X_meanRides m_X_meanRides 0 := ⟨by decide +kernel, by decide +kernel, by decide +kernel, g_mem 1131 (by decide +kernel) (by decide +kernel), g_mem 79 (by decide +kernel) rfl, by decide, fun _ _ h => h⟩
theorem iv_X_meanRides : Cond.instanceMethod y_X_meanRides ∈ g_all ∧ Cond.selects y_X_meanRides.cls y_X_meanRides y_X_meanRides ∈ g_all := ⟨g_mem 1129 (by decide +kernel) rfl, g_mem 1130 (by decide +kernel) rfl⟩
theorem e_X_closedShare : g_me y_X_closedShare m_X_closedShare 1 := ⟨by decide +kernel, by decide +kernel, by decide +kernel, g_mem 1145 (by decide +kernel) (by decide +kernel), g_mem 79 (by decide +kernel) rfl, by decide, fun _ _ h => h⟩
theorem iv_X_closedShare : Cond.instanceMethod y_X_closedShare ∈ g_all ∧ Cond.selects y_X_closedShare.cls y_X_closedShare y_X_closedShare ∈ g_all := ⟨g_mem 1143 (by decide +kernel) rfl, g_mem 1144 (by decide +kernel) rfl⟩
theorem e_X_append : g_me y_X_append m_X_append 1 := ⟨by decide +kernel, by decide +kernel, by decide +kernel, g_mem 1157 (by decide +kernel) (by decide +kernel), g_mem 79 (by decide +kernel) rfl, by decide, fun _ _ h => h⟩
theorem iv_X_append : Cond.instanceMethod y_X_append ∈ g_all ∧ Cond.selects y_X_append.cls y_X_append y_X_append ∈ g_all := ⟨g_mem 1155 (by decide +kernel) rfl, g_mem 1156 (by decide +kernel) rfl⟩
theorem e_X_read : g_me y_X_read m_X_read 0 := ⟨by decide +kernel, by decide +kernel, by decide +kernel, g_mem 1170 (by decide +kernel) (by decide +kernel), g_mem 79 (by decide +kernel) rfl, by decide, fun _ _ h => h⟩
theorem iv_X_read : Cond.instanceMethod y_X_read ∈ g_all ∧ Cond.selects y_X_read.cls y_X_read y_X_read ∈ g_all := ⟨g_mem 1168 (by decide +kernel) rfl, g_mem 1169 (by decide +kernel) rfl⟩
theorem e_X_firstRefusedOrder : g_me y_X_firstRefusedOrder m_X_firstRefusedOrder 0 := ⟨by decide +kernel, by decide +kernel, by decide +kernel, g_mem 1212 (by decide +kernel) (by decide +kernel), g_mem 79 (by decide +kernel) rfl, by decide, fun _ _ h => h⟩
theorem iv_X_firstRefusedOrder : Cond.instanceMethod y_X_firstRefusedOrder ∈ g_all ∧ Cond.selects y_X_firstRefusedOrder.cls y_X_firstRefusedOrder y_X_firstRefusedOrder ∈ g_all := ⟨g_mem 1211 (by decide +kernel) rfl, g_mem 16 (by decide +kernel) rfl⟩
theorem e_X_carriesOut : g_me y_X_carriesOut m_X_carriesOut 2 := ⟨by decide +kernel, by decide +kernel, by decide +kernel, g_mem 1218 (by decide +kernel) (by decide +kernel), g_mem 79 (by decide +kernel) rfl, by decide, fun _ _ h => h⟩
theorem iv_X_carriesOut : Cond.instanceMethod y_X_carriesOut ∈ g_all ∧ Cond.selects y_X_carriesOut.cls y_X_carriesOut y_X_carriesOut ∈ g_all := ⟨g_mem 1217 (by decide +kernel) rfl, g_mem 17 (by decide +kernel) rfl⟩
theorem e_X_orderSale : g_me y_X_orderSale m_X_orderSale 2 := ⟨by decide +kernel, by decide +kernel, by decide +kernel, g_mem 1222 (by decide +kernel) (by decide +kernel), g_mem 79 (by decide +kernel) rfl, by decide, fun _ _ h => h⟩
theorem iv_X_orderSale : Cond.instanceMethod y_X_orderSale ∈ g_all ∧ Cond.selects y_X_orderSale.cls y_X_orderSale y_X_orderSale ∈ g_all := ⟨g_mem 1221 (by decide +kernel) rfl, g_mem 18 (by decide +kernel) rfl⟩
theorem e_X_orderBlock : g_me y_X_orderBlock m_X_orderBlock 2 := ⟨by decide +kernel, by decide +kernel, by decide +kernel, g_mem 1226 (by decide +kernel) (by decide +kernel), g_mem 79 (by decide +kernel) rfl, by decide, fun _ _ h => h⟩
theorem iv_X_orderBlock : Cond.instanceMethod y_X_orderBlock ∈ g_all ∧ Cond.selects y_X_orderBlock.cls y_X_orderBlock y_X_orderBlock ∈ g_all := ⟨g_mem 1225 (by decide +kernel) rfl, g_mem 19 (by decide +kernel) rfl⟩
theorem e_X_orderReplacement : g_me y_X_orderReplacement m_X_orderReplacement 1 := ⟨by decide +kernel, by decide +kernel, by decide +kernel, g_mem 1230 (by decide +kernel) (by decide +kernel), g_mem 79 (by decide +kernel) rfl, by decide, fun _ _ h => h⟩
theorem iv_X_orderReplacement : Cond.instanceMethod y_X_orderReplacement ∈ g_all ∧ Cond.selects y_X_orderReplacement.cls y_X_orderReplacement y_X_orderReplacement ∈ g_all := ⟨g_mem 1229 (by decide +kernel) rfl, g_mem 20 (by decide +kernel) rfl⟩
theorem e_X_orderClosing : g_me y_X_orderClosing m_X_orderClosing 2 := ⟨by decide +kernel, by decide +kernel, by decide +kernel, g_mem 1234 (by decide +kernel) (by decide +kernel), g_mem 79 (by decide +kernel) rfl, by decide, fun _ _ h => h⟩
theorem iv_X_orderClosing : Cond.instanceMethod y_X_orderClosing ∈ g_all ∧ Cond.selects y_X_orderClosing.cls y_X_orderClosing y_X_orderClosing ∈ g_all := ⟨g_mem 1233 (by decide +kernel) rfl, g_mem 21 (by decide +kernel) rfl⟩
theorem e_X_orderWait : g_me y_X_orderWait m_X_orderWait 1 := ⟨by decide +kernel, by decide +kernel, by decide +kernel, g_mem 1238 (by decide +kernel) (by decide +kernel), g_mem 79 (by decide +kernel) rfl, by decide, fun _ _ h => h⟩
theorem iv_X_orderWait : Cond.instanceMethod y_X_orderWait ∈ g_all ∧ Cond.selects y_X_orderWait.cls y_X_orderWait y_X_orderWait ∈ g_all := ⟨g_mem 1237 (by decide +kernel) rfl, g_mem 22 (by decide +kernel) rfl⟩
theorem e_X_errorPosition : g_me y_X_errorPosition m_X_errorPosition 0 := ⟨by decide +kernel, by decide +kernel, by decide +kernel, g_mem 1252 (by decide +kernel) (by decide +kernel), g_mem 79 (by decide +kernel) rfl, by decide, fun _ _ h => h⟩
theorem iv_X_errorPosition : Cond.instanceMethod y_X_errorPosition ∈ g_all ∧ Cond.selects y_X_errorPosition.cls y_X_errorPosition y_X_errorPosition ∈ g_all := ⟨g_mem 1250 (by decide +kernel) rfl, g_mem 1251 (by decide +kernel) rfl⟩
theorem e_X_refusedOrder : g_me y_X_refusedOrder m_X_refusedOrder 0 := ⟨by decide +kernel, by decide +kernel, by decide +kernel, g_mem 1260 (by decide +kernel) (by decide +kernel), g_mem 79 (by decide +kernel) rfl, by decide, fun _ _ h => h⟩
theorem iv_X_refusedOrder : Cond.instanceMethod y_X_refusedOrder ∈ g_all ∧ Cond.selects y_X_refusedOrder.cls y_X_refusedOrder y_X_refusedOrder ∈ g_all := ⟨g_mem 1258 (by decide +kernel) rfl, g_mem 1259 (by decide +kernel) rfl⟩
theorem e_X_undo : g_me y_X_undo m_X_undo 0 := ⟨by decide +kernel, by decide +kernel, by decide +kernel, g_mem 1268 (by decide +kernel) (by decide +kernel), g_mem 79 (by decide +kernel) rfl, by decide, fun _ _ h => h⟩
theorem iv_X_undo : Cond.instanceMethod y_X_undo ∈ g_all ∧ Cond.selects y_X_undo.cls y_X_undo y_X_undo ∈ g_all := ⟨g_mem 1266 (by decide +kernel) rfl, g_mem 1267 (by decide +kernel) rfl⟩
theorem e_X_restore : g_me y_X_restore m_X_restore 0 := ⟨by decide +kernel, by decide +kernel, by decide +kernel, g_mem 1282 (by decide +kernel) (by decide +kernel), g_mem 79 (by decide +kernel) rfl, by decide, fun _ _ h => h⟩
theorem iv_X_restore : Cond.instanceMethod y_X_restore ∈ g_all ∧ Cond.selects y_X_restore.cls y_X_restore y_X_restore ∈ g_all := ⟨g_mem 1280 (by decide +kernel) rfl, g_mem 1281 (by decide +kernel) rfl⟩
theorem e_R_init : g_me y_R_init m_R_init 0 := ⟨by decide +kernel, by decide +kernel, by decide +kernel, g_mem 116 (by decide +kernel) (by decide +kernel), g_mem 80 (by decide +kernel) rfl, by decide, fun _ _ h => h⟩
theorem is_R_init : Cond.instanceMethod y_R_init ∈ g_all ∧ y_R_init.name = "<init>" := ⟨g_mem 115 (by decide +kernel) rfl, rfl⟩
theorem e_R_empty : g_me y_R_empty m_R_empty 0 := ⟨by decide +kernel, by decide +kernel, by decide +kernel, g_mem 258 (by decide +kernel) (by decide +kernel), g_mem 80 (by decide +kernel) rfl, by decide, fun _ _ h => h⟩
theorem iv_R_empty : Cond.instanceMethod y_R_empty ∈ g_all ∧ Cond.selects y_R_empty.cls y_R_empty y_R_empty ∈ g_all := ⟨g_mem 256 (by decide +kernel) rfl, g_mem 257 (by decide +kernel) rfl⟩
theorem e_R_allPrices : g_me y_R_allPrices m_R_allPrices 0 := ⟨by decide +kernel, by decide +kernel, by decide +kernel, g_mem 273 (by decide +kernel) (by decide +kernel), g_mem 80 (by decide +kernel) rfl, by decide, fun _ _ h => h⟩
theorem iv_R_allPrices : Cond.instanceMethod y_R_allPrices ∈ g_all ∧ Cond.selects y_R_allPrices.cls y_R_allPrices y_R_allPrices ∈ g_all := ⟨g_mem 271 (by decide +kernel) rfl, g_mem 272 (by decide +kernel) rfl⟩
theorem e_R_allRefunds : g_me y_R_allRefunds m_R_allRefunds 0 := ⟨by decide +kernel, by decide +kernel, by decide +kernel, g_mem 281 (by decide +kernel) (by decide +kernel), g_mem 80 (by decide +kernel) rfl, by decide, fun _ _ h => h⟩
theorem iv_R_allRefunds : Cond.instanceMethod y_R_allRefunds ∈ g_all ∧ Cond.selects y_R_allRefunds.cls y_R_allRefunds y_R_allRefunds ∈ g_all := ⟨g_mem 279 (by decide +kernel) rfl, g_mem 280 (by decide +kernel) rfl⟩
theorem e_R_allIdle : g_me y_R_allIdle m_R_allIdle 0 := ⟨by decide +kernel, by decide +kernel, by decide +kernel, g_mem 313 (by decide +kernel) (by decide +kernel), g_mem 80 (by decide +kernel) rfl, by decide, fun _ _ h => h⟩
theorem iv_R_allIdle : Cond.instanceMethod y_R_allIdle ∈ g_all ∧ Cond.selects y_R_allIdle.cls y_R_allIdle y_R_allIdle ∈ g_all := ⟨g_mem 311 (by decide +kernel) rfl, g_mem 312 (by decide +kernel) rfl⟩
theorem e_R_ridesThroughAllGates : g_me y_R_ridesThroughAllGates m_R_ridesThroughAllGates 0 := ⟨by decide +kernel, by decide +kernel, by decide +kernel, g_mem 318 (by decide +kernel) (by decide +kernel), g_mem 80 (by decide +kernel) rfl, by decide, fun _ _ h => h⟩
theorem iv_R_ridesThroughAllGates : Cond.instanceMethod y_R_ridesThroughAllGates ∈ g_all ∧ Cond.selects y_R_ridesThroughAllGates.cls y_R_ridesThroughAllGates y_R_ridesThroughAllGates ∈ g_all := ⟨g_mem 316 (by decide +kernel) rfl, g_mem 317 (by decide +kernel) rfl⟩
theorem e_R_ridesThrough : g_me y_R_ridesThrough m_R_ridesThrough 1 := ⟨by decide +kernel, by decide +kernel, by decide +kernel, g_mem 322 (by decide +kernel) (by decide +kernel), g_mem 80 (by decide +kernel) rfl, by decide, fun _ _ h => h⟩
theorem iv_R_ridesThrough : Cond.instanceMethod y_R_ridesThrough ∈ g_all ∧ Cond.selects y_R_ridesThrough.cls y_R_ridesThrough y_R_ridesThrough ∈ g_all := ⟨g_mem 320 (by decide +kernel) rfl, g_mem 321 (by decide +kernel) rfl⟩
theorem e_R_ridesOnAllCards : g_me y_R_ridesOnAllCards m_R_ridesOnAllCards 0 := ⟨by decide +kernel, by decide +kernel, by decide +kernel, g_mem 330 (by decide +kernel) (by decide +kernel), g_mem 80 (by decide +kernel) rfl, by decide, fun _ _ h => h⟩
theorem iv_R_ridesOnAllCards : Cond.instanceMethod y_R_ridesOnAllCards ∈ g_all ∧ Cond.selects y_R_ridesOnAllCards.cls y_R_ridesOnAllCards y_R_ridesOnAllCards ∈ g_all := ⟨g_mem 328 (by decide +kernel) rfl, g_mem 329 (by decide +kernel) rfl⟩
theorem e_R_keepsAllWays : g_me y_R_keepsAllWays m_R_keepsAllWays 0 := ⟨by decide +kernel, by decide +kernel, by decide +kernel, g_mem 334 (by decide +kernel) (by decide +kernel), g_mem 80 (by decide +kernel) rfl, by decide, fun _ _ h => h⟩
theorem iv_R_keepsAllWays : Cond.instanceMethod y_R_keepsAllWays ∈ g_all ∧ Cond.selects y_R_keepsAllWays.cls y_R_keepsAllWays y_R_keepsAllWays ∈ g_all := ⟨g_mem 332 (by decide +kernel) rfl, g_mem 333 (by decide +kernel) rfl⟩
theorem e_R_copyFrom : g_me y_R_copyFrom m_R_copyFrom 1 := ⟨by decide +kernel, by decide +kernel, by decide +kernel, g_mem 353 (by decide +kernel) (by decide +kernel), g_mem 80 (by decide +kernel) rfl, by decide, fun _ _ h => h⟩
theorem iv_R_copyFrom : Cond.instanceMethod y_R_copyFrom ∈ g_all ∧ Cond.selects y_R_copyFrom.cls y_R_copyFrom y_R_copyFrom ∈ g_all := ⟨g_mem 351 (by decide +kernel) rfl, g_mem 352 (by decide +kernel) rfl⟩
theorem e_R_insertGate : g_me y_R_insertGate m_R_insertGate 1 := ⟨by decide +kernel, by decide +kernel, by decide +kernel, g_mem 507 (by decide +kernel) (by decide +kernel), g_mem 80 (by decide +kernel) rfl, by decide, fun _ _ h => h⟩
theorem iv_R_insertGate : Cond.instanceMethod y_R_insertGate ∈ g_all ∧ Cond.selects y_R_insertGate.cls y_R_insertGate y_R_insertGate ∈ g_all := ⟨g_mem 505 (by decide +kernel) rfl, g_mem 506 (by decide +kernel) rfl⟩
theorem e_R_insertProduct : g_me y_R_insertProduct m_R_insertProduct 1 := ⟨by decide +kernel, by decide +kernel, by decide +kernel, g_mem 559 (by decide +kernel) (by decide +kernel), g_mem 80 (by decide +kernel) rfl, by decide, fun _ _ h => h⟩
theorem iv_R_insertProduct : Cond.instanceMethod y_R_insertProduct ∈ g_all ∧ Cond.selects y_R_insertProduct.cls y_R_insertProduct y_R_insertProduct ∈ g_all := ⟨g_mem 557 (by decide +kernel) rfl, g_mem 558 (by decide +kernel) rfl⟩
theorem e_R_gateAt : g_me y_R_gateAt m_R_gateAt 1 := ⟨by decide +kernel, by decide +kernel, by decide +kernel, g_mem 598 (by decide +kernel) (by decide +kernel), g_mem 80 (by decide +kernel) rfl, by decide, fun _ _ h => h⟩
theorem iv_R_gateAt : Cond.instanceMethod y_R_gateAt ∈ g_all ∧ Cond.selects y_R_gateAt.cls y_R_gateAt y_R_gateAt ∈ g_all := ⟨g_mem 596 (by decide +kernel) rfl, g_mem 597 (by decide +kernel) rfl⟩
theorem e_R_isShut : g_me y_R_isShut m_R_isShut 1 := ⟨by decide +kernel, by decide +kernel, by decide +kernel, g_mem 615 (by decide +kernel) (by decide +kernel), g_mem 80 (by decide +kernel) rfl, by decide, fun _ _ h => h⟩
theorem iv_R_isShut : Cond.instanceMethod y_R_isShut ∈ g_all ∧ Cond.selects y_R_isShut.cls y_R_isShut y_R_isShut ∈ g_all := ⟨g_mem 613 (by decide +kernel) rfl, g_mem 614 (by decide +kernel) rfl⟩
theorem e_R_today : g_me y_R_today m_R_today 0 := ⟨by decide +kernel, by decide +kernel, by decide +kernel, g_mem 620 (by decide +kernel) (by decide +kernel), g_mem 80 (by decide +kernel) rfl, by decide, fun _ _ h => h⟩
theorem iv_R_today : Cond.instanceMethod y_R_today ∈ g_all ∧ Cond.selects y_R_today.cls y_R_today y_R_today ∈ g_all := ⟨g_mem 618 (by decide +kernel) rfl, g_mem 619 (by decide +kernel) rfl⟩
theorem e_R_closedOn : g_me y_R_closedOn m_R_closedOn 2 := ⟨by decide +kernel, by decide +kernel, by decide +kernel, g_mem 624 (by decide +kernel) (by decide +kernel), g_mem 80 (by decide +kernel) rfl, by decide, fun _ _ h => h⟩
theorem iv_R_closedOn : Cond.instanceMethod y_R_closedOn ∈ g_all ∧ Cond.selects y_R_closedOn.cls y_R_closedOn y_R_closedOn ∈ g_all := ⟨g_mem 622 (by decide +kernel) rfl, g_mem 623 (by decide +kernel) rfl⟩
theorem e_R_closedOnAllDays : g_me y_R_closedOnAllDays m_R_closedOnAllDays 1 := ⟨by decide +kernel, by decide +kernel, by decide +kernel, g_mem 628 (by decide +kernel) (by decide +kernel), g_mem 80 (by decide +kernel) rfl, by decide, fun _ _ h => h⟩
theorem iv_R_closedOnAllDays : Cond.instanceMethod y_R_closedOnAllDays ∈ g_all ∧ Cond.selects y_R_closedOnAllDays.cls y_R_closedOnAllDays y_R_closedOnAllDays ∈ g_all := ⟨g_mem 626 (by decide +kernel) rfl, g_mem 627 (by decide +kernel) rfl⟩
theorem e_R_productAt : g_me y_R_productAt m_R_productAt 1 := ⟨by decide +kernel, by decide +kernel, by decide +kernel, g_mem 645 (by decide +kernel) (by decide +kernel), g_mem 80 (by decide +kernel) rfl, by decide, fun _ _ h => h⟩
theorem iv_R_productAt : Cond.instanceMethod y_R_productAt ∈ g_all ∧ Cond.selects y_R_productAt.cls y_R_productAt y_R_productAt ∈ g_all := ⟨g_mem 643 (by decide +kernel) rfl, g_mem 644 (by decide +kernel) rfl⟩
theorem e_R_gatesFor : g_me y_R_gatesFor m_R_gatesFor 1 := ⟨by decide +kernel, by decide +kernel, by decide +kernel, g_mem 650 (by decide +kernel) (by decide +kernel), g_mem 80 (by decide +kernel) rfl, by decide, fun _ _ h => h⟩
theorem iv_R_gatesFor : Cond.instanceMethod y_R_gatesFor ∈ g_all ∧ Cond.selects y_R_gatesFor.cls y_R_gatesFor y_R_gatesFor ∈ g_all := ⟨g_mem 648 (by decide +kernel) rfl, g_mem 649 (by decide +kernel) rfl⟩
theorem e_R_cardsWith : g_me y_R_cardsWith m_R_cardsWith 1 := ⟨by decide +kernel, by decide +kernel, by decide +kernel, g_mem 658 (by decide +kernel) (by decide +kernel), g_mem 80 (by decide +kernel) rfl, by decide, fun _ _ h => h⟩
theorem iv_R_cardsWith : Cond.instanceMethod y_R_cardsWith ∈ g_all ∧ Cond.selects y_R_cardsWith.cls y_R_cardsWith y_R_cardsWith ∈ g_all := ⟨g_mem 656 (by decide +kernel) rfl, g_mem 657 (by decide +kernel) rfl⟩
theorem e_R_goOn : g_me y_R_goOn m_R_goOn 1 := ⟨by decide +kernel, by decide +kernel, by decide +kernel, g_mem 681 (by decide +kernel) (by decide +kernel), g_mem 80 (by decide +kernel) rfl, by decide, fun _ _ h => h⟩
theorem iv_R_goOn : Cond.instanceMethod y_R_goOn ∈ g_all ∧ Cond.selects y_R_goOn.cls y_R_goOn y_R_goOn ∈ g_all := ⟨g_mem 679 (by decide +kernel) rfl, g_mem 680 (by decide +kernel) rfl⟩
theorem e_R_countClosed : g_me y_R_countClosed m_R_countClosed 3 := ⟨by decide +kernel, by decide +kernel, by decide +kernel, g_mem 686 (by decide +kernel) (by decide +kernel), g_mem 80 (by decide +kernel) rfl, by decide, fun _ _ h => h⟩
theorem iv_R_countClosed : Cond.instanceMethod y_R_countClosed ∈ g_all ∧ Cond.selects y_R_countClosed.cls y_R_countClosed y_R_countClosed ∈ g_all := ⟨g_mem 685 (by decide +kernel) rfl, g_mem 6 (by decide +kernel) rfl⟩
theorem e_R_countedBetween : g_me y_R_countedBetween m_R_countedBetween 3 := ⟨by decide +kernel, by decide +kernel, by decide +kernel, g_mem 689 (by decide +kernel) (by decide +kernel), g_mem 80 (by decide +kernel) rfl, by decide, fun _ _ h => h⟩
theorem st_R_countedBetween : Cond.static y_R_countedBetween ∈ g_all := g_mem 688 (by decide +kernel) rfl
theorem e_R_hour : g_me y_R_hour m_R_hour 0 := ⟨by decide +kernel, by decide +kernel, by decide +kernel, g_mem 703 (by decide +kernel) (by decide +kernel), g_mem 80 (by decide +kernel) rfl, by decide, fun _ _ h => h⟩
theorem iv_R_hour : Cond.instanceMethod y_R_hour ∈ g_all ∧ Cond.selects y_R_hour.cls y_R_hour y_R_hour ∈ g_all := ⟨g_mem 701 (by decide +kernel) rfl, g_mem 702 (by decide +kernel) rfl⟩
theorem e_R_shut : g_me y_R_shut m_R_shut 2 := ⟨by decide +kernel, by decide +kernel, by decide +kernel, g_mem 715 (by decide +kernel) (by decide +kernel), g_mem 80 (by decide +kernel) rfl, by decide, fun _ _ h => h⟩
theorem iv_R_shut : Cond.instanceMethod y_R_shut ∈ g_all ∧ Cond.selects y_R_shut.cls y_R_shut y_R_shut ∈ g_all := ⟨g_mem 713 (by decide +kernel) rfl, g_mem 714 (by decide +kernel) rfl⟩
theorem e_R_isClosedFor : g_me y_R_isClosedFor m_R_isClosedFor 2 := ⟨by decide +kernel, by decide +kernel, by decide +kernel, g_mem 737 (by decide +kernel) (by decide +kernel), g_mem 80 (by decide +kernel) rfl, by decide, fun _ _ h => h⟩
theorem iv_R_isClosedFor : Cond.instanceMethod y_R_isClosedFor ∈ g_all ∧ Cond.selects y_R_isClosedFor.cls y_R_isClosedFor y_R_isClosedFor ∈ g_all := ⟨g_mem 735 (by decide +kernel) rfl, g_mem 736 (by decide +kernel) rfl⟩
theorem e_R_hasRoomForCards : g_me y_R_hasRoomForCards m_R_hasRoomForCards 1 := ⟨by decide +kernel, by decide +kernel, by decide +kernel, g_mem 748 (by decide +kernel) (by decide +kernel), g_mem 80 (by decide +kernel) rfl, by decide, fun _ _ h => h⟩
theorem iv_R_hasRoomForCards : Cond.instanceMethod y_R_hasRoomForCards ∈ g_all ∧ Cond.selects y_R_hasRoomForCards.cls y_R_hasRoomForCards y_R_hasRoomForCards ∈ g_all := ⟨g_mem 746 (by decide +kernel) rfl, g_mem 747 (by decide +kernel) rfl⟩
theorem e_R_insertCards : g_me y_R_insertCards m_R_insertCards 2 := ⟨by decide +kernel, by decide +kernel, by decide +kernel, g_mem 753 (by decide +kernel) (by decide +kernel), g_mem 80 (by decide +kernel) rfl, by decide, fun _ _ h => h⟩
theorem iv_R_insertCards : Cond.instanceMethod y_R_insertCards ∈ g_all ∧ Cond.selects y_R_insertCards.cls y_R_insertCards y_R_insertCards ∈ g_all := ⟨g_mem 751 (by decide +kernel) rfl, g_mem 752 (by decide +kernel) rfl⟩
theorem e_R_insertCard : g_me y_R_insertCard m_R_insertCard 2 := ⟨by decide +kernel, by decide +kernel, by decide +kernel, g_mem 757 (by decide +kernel) (by decide +kernel), g_mem 80 (by decide +kernel) rfl, by decide, fun _ _ h => h⟩
theorem iv_R_insertCard : Cond.instanceMethod y_R_insertCard ∈ g_all ∧ Cond.selects y_R_insertCard.cls y_R_insertCard y_R_insertCard ∈ g_all := ⟨g_mem 756 (by decide +kernel) rfl, g_mem 7 (by decide +kernel) rfl⟩
theorem e_R_putCard : g_me y_R_putCard m_R_putCard 1 := ⟨by decide +kernel, by decide +kernel, by decide +kernel, g_mem 796 (by decide +kernel) (by decide +kernel), g_mem 80 (by decide +kernel) rfl, by decide, fun _ _ h => h⟩
theorem iv_R_putCard : Cond.instanceMethod y_R_putCard ∈ g_all ∧ Cond.selects y_R_putCard.cls y_R_putCard y_R_putCard ∈ g_all := ⟨g_mem 795 (by decide +kernel) rfl, g_mem 8 (by decide +kernel) rfl⟩
theorem e_R_cardAt : g_me y_R_cardAt m_R_cardAt 1 := ⟨by decide +kernel, by decide +kernel, by decide +kernel, g_mem 812 (by decide +kernel) (by decide +kernel), g_mem 80 (by decide +kernel) rfl, by decide, fun _ _ h => h⟩
theorem iv_R_cardAt : Cond.instanceMethod y_R_cardAt ∈ g_all ∧ Cond.selects y_R_cardAt.cls y_R_cardAt y_R_cardAt ∈ g_all := ⟨g_mem 810 (by decide +kernel) rfl, g_mem 811 (by decide +kernel) rfl⟩
theorem e_R_reasonAgainst : g_me y_R_reasonAgainst m_R_reasonAgainst 2 := ⟨by decide +kernel, by decide +kernel, by decide +kernel, g_mem 817 (by decide +kernel) (by decide +kernel), g_mem 80 (by decide +kernel) rfl, by decide, fun _ _ h => h⟩
theorem iv_R_reasonAgainst : Cond.instanceMethod y_R_reasonAgainst ∈ g_all ∧ Cond.selects y_R_reasonAgainst.cls y_R_reasonAgainst y_R_reasonAgainst ∈ g_all := ⟨g_mem 815 (by decide +kernel) rfl, g_mem 816 (by decide +kernel) rfl⟩
theorem e_R_reasonOfWay : g_me y_R_reasonOfWay m_R_reasonOfWay 2 := ⟨by decide +kernel, by decide +kernel, by decide +kernel, g_mem 851 (by decide +kernel) (by decide +kernel), g_mem 80 (by decide +kernel) rfl, by decide, fun _ _ h => h⟩
theorem iv_R_reasonOfWay : Cond.instanceMethod y_R_reasonOfWay ∈ g_all ∧ Cond.selects y_R_reasonOfWay.cls y_R_reasonOfWay y_R_reasonOfWay ∈ g_all := ⟨g_mem 850 (by decide +kernel) rfl, g_mem 10 (by decide +kernel) rfl⟩
theorem e_R_addRide : g_me y_R_addRide m_R_addRide 2 := ⟨by decide +kernel, by decide +kernel, by decide +kernel, g_mem 872 (by decide +kernel) (by decide +kernel), g_mem 80 (by decide +kernel) rfl, by decide, fun _ _ h => h⟩
theorem iv_R_addRide : Cond.instanceMethod y_R_addRide ∈ g_all ∧ Cond.selects y_R_addRide.cls y_R_addRide y_R_addRide ∈ g_all := ⟨g_mem 870 (by decide +kernel) rfl, g_mem 871 (by decide +kernel) rfl⟩
theorem e_R_gatesThatLetPass : g_me y_R_gatesThatLetPass m_R_gatesThatLetPass 1 := ⟨by decide +kernel, by decide +kernel, by decide +kernel, g_mem 928 (by decide +kernel) (by decide +kernel), g_mem 80 (by decide +kernel) rfl, by decide, fun _ _ h => h⟩
theorem iv_R_gatesThatLetPass : Cond.instanceMethod y_R_gatesThatLetPass ∈ g_all ∧ Cond.selects y_R_gatesThatLetPass.cls y_R_gatesThatLetPass y_R_gatesThatLetPass ∈ g_all := ⟨g_mem 926 (by decide +kernel) rfl, g_mem 927 (by decide +kernel) rfl⟩
theorem e_R_setBlocked : g_me y_R_setBlocked m_R_setBlocked 2 := ⟨by decide +kernel, by decide +kernel, by decide +kernel, g_mem 974 (by decide +kernel) (by decide +kernel), g_mem 80 (by decide +kernel) rfl, by decide, fun _ _ h => h⟩
theorem iv_R_setBlocked : Cond.instanceMethod y_R_setBlocked ∈ g_all ∧ Cond.selects y_R_setBlocked.cls y_R_setBlocked y_R_setBlocked ∈ g_all := ⟨g_mem 972 (by decide +kernel) rfl, g_mem 973 (by decide +kernel) rfl⟩
theorem e_R_exchange : g_me y_R_exchange m_R_exchange 1 := ⟨by decide +kernel, by decide +kernel, by decide +kernel, g_mem 990 (by decide +kernel) (by decide +kernel), g_mem 80 (by decide +kernel) rfl, by decide, fun _ _ h => h⟩
theorem iv_R_exchange : Cond.instanceMethod y_R_exchange ∈ g_all ∧ Cond.selects y_R_exchange.cls y_R_exchange y_R_exchange ∈ g_all := ⟨g_mem 988 (by decide +kernel) rfl, g_mem 989 (by decide +kernel) rfl⟩
theorem e_R_lastSuccessor : g_me y_R_lastSuccessor m_R_lastSuccessor 1 := ⟨by decide +kernel, by decide +kernel, by decide +kernel, g_mem 1008 (by decide +kernel) (by decide +kernel), g_mem 80 (by decide +kernel) rfl, by decide, fun _ _ h => h⟩
theorem iv_R_lastSuccessor : Cond.instanceMethod y_R_lastSuccessor ∈ g_all ∧ Cond.selects y_R_lastSuccessor.cls y_R_lastSuccessor y_R_lastSuccessor ∈ g_all := ⟨g_mem 1006 (by decide +kernel) rfl, g_mem 1007 (by decide +kernel) rfl⟩
theorem e_R_refundFor : g_me y_R_refundFor m_R_refundFor 1 := ⟨by decide +kernel, by decide +kernel, by decide +kernel, g_mem 1039 (by decide +kernel) (by decide +kernel), g_mem 80 (by decide +kernel) rfl, by decide, fun _ _ h => h⟩
theorem iv_R_refundFor : Cond.instanceMethod y_R_refundFor ∈ g_all ∧ Cond.selects y_R_refundFor.cls y_R_refundFor y_R_refundFor ∈ g_all := ⟨g_mem 1037 (by decide +kernel) rfl, g_mem 1038 (by decide +kernel) rfl⟩
theorem e_R_closedDaysOf : g_me y_R_closedDaysOf m_R_closedDaysOf 1 := ⟨by decide +kernel, by decide +kernel, by decide +kernel, g_mem 1048 (by decide +kernel) (by decide +kernel), g_mem 80 (by decide +kernel) rfl, by decide, fun _ _ h => h⟩
theorem iv_R_closedDaysOf : Cond.instanceMethod y_R_closedDaysOf ∈ g_all ∧ Cond.selects y_R_closedDaysOf.cls y_R_closedDaysOf y_R_closedDaysOf ∈ g_all := ⟨g_mem 1047 (by decide +kernel) rfl, g_mem 11 (by decide +kernel) rfl⟩
theorem e_R_payBack : g_me y_R_payBack m_R_payBack 1 := ⟨by decide +kernel, by decide +kernel, by decide +kernel, g_mem 1061 (by decide +kernel) (by decide +kernel), g_mem 80 (by decide +kernel) rfl, by decide, fun _ _ h => h⟩
theorem iv_R_payBack : Cond.instanceMethod y_R_payBack ∈ g_all ∧ Cond.selects y_R_payBack.cls y_R_payBack y_R_payBack ∈ g_all := ⟨g_mem 1059 (by decide +kernel) rfl, g_mem 1060 (by decide +kernel) rfl⟩
theorem e_R_ridesAt : g_me y_R_ridesAt m_R_ridesAt 1 := ⟨by decide +kernel, by decide +kernel, by decide +kernel, g_mem 1088 (by decide +kernel) (by decide +kernel), g_mem 80 (by decide +kernel) rfl, by decide, fun _ _ h => h⟩
theorem iv_R_ridesAt : Cond.instanceMethod y_R_ridesAt ∈ g_all ∧ Cond.selects y_R_ridesAt.cls y_R_ridesAt y_R_ridesAt ∈ g_all := ⟨g_mem 1086 (by decide +kernel) rfl, g_mem 1087 (by decide +kernel) rfl⟩
theorem e_R_gatesOf : g_me y_R_gatesOf m_R_gatesOf 1 := ⟨by decide +kernel, by decide +kernel, by decide +kernel, g_mem 1093 (by decide +kernel) (by decide +kernel), g_mem 80 (by decide +kernel) rfl, by decide, fun _ _ h => h⟩
theorem iv_R_gatesOf : Cond.instanceMethod y_R_gatesOf ∈ g_all ∧ Cond.selects y_R_gatesOf.cls y_R_gatesOf y_R_gatesOf ∈ g_all := ⟨g_mem 1091 (by decide +kernel) rfl, g_mem 1092 (by decide +kernel) rfl⟩
theorem e_R_cardsSeenBy : g_me y_R_cardsSeenBy m_R_cardsSeenBy 1 := ⟨by decide +kernel, by decide +kernel, by decide +kernel, g_mem 1097 (by decide +kernel) (by decide +kernel), g_mem 80 (by decide +kernel) rfl, by decide, fun _ _ h => h⟩
theorem iv_R_cardsSeenBy : Cond.instanceMethod y_R_cardsSeenBy ∈ g_all ∧ Cond.selects y_R_cardsSeenBy.cls y_R_cardsSeenBy y_R_cardsSeenBy ∈ g_all := ⟨g_mem 1095 (by decide +kernel) rfl, g_mem 1096 (by decide +kernel) rfl⟩
theorem e_R_allRefundable : g_me y_R_allRefundable m_R_allRefundable 0 := ⟨by decide +kernel, by decide +kernel, by decide +kernel, g_mem 1109 (by decide +kernel) (by decide +kernel), g_mem 80 (by decide +kernel) rfl, by decide, fun _ _ h => h⟩
theorem iv_R_allRefundable : Cond.instanceMethod y_R_allRefundable ∈ g_all ∧ Cond.selects y_R_allRefundable.cls y_R_allRefundable y_R_allRefundable ∈ g_all := ⟨g_mem 1107 (by decide +kernel) rfl, g_mem 1108 (by decide +kernel) rfl⟩
theorem e_R_cardsInForce : g_me y_R_cardsInForce m_R_cardsInForce 0 := ⟨by decide +kernel, by decide +kernel, by decide +kernel, g_mem 1135 (by decide +kernel) (by decide +kernel), g_mem 80 (by decide +kernel) rfl, by decide, fun _ _ h => h⟩
theorem iv_R_cardsInForce : Cond.instanceMethod y_R_cardsInForce ∈ g_all ∧ Cond.selects y_R_cardsInForce.cls y_R_cardsInForce y_R_cardsInForce ∈ g_all := ⟨g_mem 1133 (by decide +kernel) rfl, g_mem 1134 (by decide +kernel) rfl⟩
theorem e_R_countedSoFar : g_me y_R_countedSoFar m_R_countedSoFar 0 := ⟨by decide +kernel, by decide +kernel, by decide +kernel, g_mem 1149 (by decide +kernel) (by decide +kernel), g_mem 80 (by decide +kernel) rfl, by decide, fun _ _ h => h⟩
theorem iv_R_countedSoFar : Cond.instanceMethod y_R_countedSoFar ∈ g_all ∧ Cond.selects y_R_countedSoFar.cls y_R_countedSoFar y_R_countedSoFar ∈ g_all := ⟨g_mem 1147 (by decide +kernel) rfl, g_mem 1148 (by decide +kernel) rfl⟩
theorem e_H_init : g_me y_H_init m_H_init 0 := ⟨by decide +kernel, by decide +kernel, by decide +kernel, g_mem 163 (by decide +kernel) (by decide +kernel), g_mem 81 (by decide +kernel) rfl, by decide, fun _ _ h => h⟩
theorem is_H_init : Cond.instanceMethod y_H_init ∈ g_all ∧ y_H_init.name = "<init>" := ⟨g_mem 162 (by decide +kernel) rfl, rfl⟩
theorem e_H_forget : g_me y_H_forget m_H_forget 0 := ⟨by decide +kernel, by decide +kernel, by decide +kernel, g_mem 265 (by decide +kernel) (by decide +kernel), g_mem 81 (by decide +kernel) rfl, by decide, fun _ _ h => h⟩
theorem iv_H_forget : Cond.instanceMethod y_H_forget ∈ g_all ∧ Cond.selects y_H_forget.cls y_H_forget y_H_forget ∈ g_all := ⟨g_mem 263 (by decide +kernel) rfl, g_mem 264 (by decide +kernel) rfl⟩
theorem e_H_record : g_me y_H_record m_H_record 1 := ⟨by decide +kernel, by decide +kernel, by decide +kernel, g_mem 466 (by decide +kernel) (by decide +kernel), g_mem 81 (by decide +kernel) rfl, by decide, fun _ _ h => h⟩
theorem iv_H_record : Cond.instanceMethod y_H_record ∈ g_all ∧ Cond.selects y_H_record.cls y_H_record y_H_record ∈ g_all := ⟨g_mem 464 (by decide +kernel) rfl, g_mem 465 (by decide +kernel) rfl⟩
theorem e_H_keep : g_me y_H_keep m_H_keep 1 := ⟨by decide +kernel, by decide +kernel, by decide +kernel, g_mem 470 (by decide +kernel) (by decide +kernel), g_mem 81 (by decide +kernel) rfl, by decide, fun _ _ h => h⟩
theorem iv_H_keep : Cond.instanceMethod y_H_keep ∈ g_all ∧ Cond.selects y_H_keep.cls y_H_keep y_H_keep ∈ g_all := ⟨g_mem 468 (by decide +kernel) rfl, g_mem 469 (by decide +kernel) rfl⟩
theorem e_H_nextPlace : g_me y_H_nextPlace m_H_nextPlace 0 := ⟨by decide +kernel, by decide +kernel, by decide +kernel, g_mem 474 (by decide +kernel) (by decide +kernel), g_mem 81 (by decide +kernel) rfl, by decide, fun _ _ h => h⟩
theorem iv_H_nextPlace : Cond.instanceMethod y_H_nextPlace ∈ g_all ∧ Cond.selects y_H_nextPlace.cls y_H_nextPlace y_H_nextPlace ∈ g_all := ⟨g_mem 473 (by decide +kernel) rfl, g_mem 3 (by decide +kernel) rfl⟩
theorem e_H_commit : g_me y_H_commit m_H_commit 0 := ⟨by decide +kernel, by decide +kernel, by decide +kernel, g_mem 479 (by decide +kernel) (by decide +kernel), g_mem 81 (by decide +kernel) rfl, by decide, fun _ _ h => h⟩
theorem iv_H_commit : Cond.instanceMethod y_H_commit ∈ g_all ∧ Cond.selects y_H_commit.cls y_H_commit y_H_commit ∈ g_all := ⟨g_mem 477 (by decide +kernel) rfl, g_mem 478 (by decide +kernel) rfl⟩
theorem e_H_bringBack : g_me y_H_bringBack m_H_bringBack 1 := ⟨by decide +kernel, by decide +kernel, by decide +kernel, g_mem 1243 (by decide +kernel) (by decide +kernel), g_mem 81 (by decide +kernel) rfl, by decide, fun _ _ h => h⟩
theorem iv_H_bringBack : Cond.instanceMethod y_H_bringBack ∈ g_all ∧ Cond.selects y_H_bringBack.cls y_H_bringBack y_H_bringBack ∈ g_all := ⟨g_mem 1241 (by decide +kernel) rfl, g_mem 1242 (by decide +kernel) rfl⟩
theorem e_H_stepBack : g_me y_H_stepBack m_H_stepBack 1 := ⟨by decide +kernel, by decide +kernel, by decide +kernel, g_mem 1273 (by decide +kernel) (by decide +kernel), g_mem 81 (by decide +kernel) rfl, by decide, fun _ _ h => h⟩
theorem iv_H_stepBack : Cond.instanceMethod y_H_stepBack ∈ g_all ∧ Cond.selects y_H_stepBack.cls y_H_stepBack y_H_stepBack ∈ g_all := ⟨g_mem 1271 (by decide +kernel) rfl, g_mem 1272 (by decide +kernel) rfl⟩
theorem e_T_init : g_me y_T_init m_T_init 0 := ⟨by decide +kernel, by decide +kernel, by decide +kernel, g_mem 183 (by decide +kernel) (by decide +kernel), g_mem 82 (by decide +kernel) rfl, by decide, fun _ _ h => h⟩
theorem is_T_init : Cond.instanceMethod y_T_init ∈ g_all ∧ y_T_init.name = "<init>" := ⟨g_mem 182 (by decide +kernel) rfl, rfl⟩
theorem e_T_put : g_me y_T_put m_T_put 1 := ⟨by decide +kernel, by decide +kernel, by decide +kernel, g_mem 1163 (by decide +kernel) (by decide +kernel), g_mem 82 (by decide +kernel) rfl, by decide, fun _ _ h => h⟩
theorem iv_T_put : Cond.instanceMethod y_T_put ∈ g_all ∧ Cond.selects y_T_put.cls y_T_put y_T_put ∈ g_all := ⟨g_mem 1161 (by decide +kernel) rfl, g_mem 1162 (by decide +kernel) rfl⟩
theorem e_T_findError : g_me y_T_findError m_T_findError 0 := ⟨by decide +kernel, by decide +kernel, by decide +kernel, g_mem 1174 (by decide +kernel) (by decide +kernel), g_mem 82 (by decide +kernel) rfl, by decide, fun _ _ h => h⟩
theorem iv_T_findError : Cond.instanceMethod y_T_findError ∈ g_all ∧ Cond.selects y_T_findError.cls y_T_findError y_T_findError ∈ g_all := ⟨g_mem 1172 (by decide +kernel) rfl, g_mem 1173 (by decide +kernel) rfl⟩
theorem e_T_rewind : g_me y_T_rewind m_T_rewind 0 := ⟨by decide +kernel, by decide +kernel, by decide +kernel, g_mem 1178 (by decide +kernel) (by decide +kernel), g_mem 82 (by decide +kernel) rfl, by decide, fun _ _ h => h⟩
theorem iv_T_rewind : Cond.instanceMethod y_T_rewind ∈ g_all ∧ Cond.selects y_T_rewind.cls y_T_rewind y_T_rewind ∈ g_all := ⟨g_mem 1176 (by decide +kernel) rfl, g_mem 1177 (by decide +kernel) rfl⟩
theorem e_T_takeOrder : g_me y_T_takeOrder m_T_takeOrder 0 := ⟨by decide +kernel, by decide +kernel, by decide +kernel, g_mem 1182 (by decide +kernel) (by decide +kernel), g_mem 82 (by decide +kernel) rfl, by decide, fun _ _ h => h⟩
theorem iv_T_takeOrder : Cond.instanceMethod y_T_takeOrder ∈ g_all ∧ Cond.selects y_T_takeOrder.cls y_T_takeOrder y_T_takeOrder ∈ g_all := ⟨g_mem 1180 (by decide +kernel) rfl, g_mem 1181 (by decide +kernel) rfl⟩
theorem e_T_sign : g_me y_T_sign m_T_sign 0 := ⟨by decide +kernel, by decide +kernel, by decide +kernel, g_mem 1186 (by decide +kernel) (by decide +kernel), g_mem 82 (by decide +kernel) rfl, by decide, fun _ _ h => h⟩
theorem iv_T_sign : Cond.instanceMethod y_T_sign ∈ g_all ∧ Cond.selects y_T_sign.cls y_T_sign y_T_sign ∈ g_all := ⟨g_mem 1185 (by decide +kernel) rfl, g_mem 12 (by decide +kernel) rfl⟩
theorem e_T_takeSale : g_me y_T_takeSale m_T_takeSale 0 := ⟨by decide +kernel, by decide +kernel, by decide +kernel, g_mem 1190 (by decide +kernel) (by decide +kernel), g_mem 82 (by decide +kernel) rfl, by decide, fun _ _ h => h⟩
theorem iv_T_takeSale : Cond.instanceMethod y_T_takeSale ∈ g_all ∧ Cond.selects y_T_takeSale.cls y_T_takeSale y_T_takeSale ∈ g_all := ⟨g_mem 1189 (by decide +kernel) rfl, g_mem 13 (by decide +kernel) rfl⟩
theorem e_T_takeDigit : g_me y_T_takeDigit m_T_takeDigit 0 := ⟨by decide +kernel, by decide +kernel, by decide +kernel, g_mem 1194 (by decide +kernel) (by decide +kernel), g_mem 82 (by decide +kernel) rfl, by decide, fun _ _ h => h⟩
theorem iv_T_takeDigit : Cond.instanceMethod y_T_takeDigit ∈ g_all ∧ Cond.selects y_T_takeDigit.cls y_T_takeDigit y_T_takeDigit ∈ g_all := ⟨g_mem 1193 (by decide +kernel) rfl, g_mem 14 (by decide +kernel) rfl⟩
theorem e_T_skip : g_me y_T_skip m_T_skip 1 := ⟨by decide +kernel, by decide +kernel, by decide +kernel, g_mem 1198 (by decide +kernel) (by decide +kernel), g_mem 82 (by decide +kernel) rfl, by decide, fun _ _ h => h⟩
theorem iv_T_skip : Cond.instanceMethod y_T_skip ∈ g_all ∧ Cond.selects y_T_skip.cls y_T_skip y_T_skip ∈ g_all := ⟨g_mem 1196 (by decide +kernel) rfl, g_mem 1197 (by decide +kernel) rfl⟩
theorem e_T_takeNumber : g_me y_T_takeNumber m_T_takeNumber 0 := ⟨by decide +kernel, by decide +kernel, by decide +kernel, g_mem 1202 (by decide +kernel) (by decide +kernel), g_mem 82 (by decide +kernel) rfl, by decide, fun _ _ h => h⟩
theorem iv_T_takeNumber : Cond.instanceMethod y_T_takeNumber ∈ g_all ∧ Cond.selects y_T_takeNumber.cls y_T_takeNumber y_T_takeNumber ∈ g_all := ⟨g_mem 1201 (by decide +kernel) rfl, g_mem 15 (by decide +kernel) rfl⟩
theorem e_T_empty : g_me y_T_empty m_T_empty 0 := ⟨by decide +kernel, by decide +kernel, by decide +kernel, g_mem 1206 (by decide +kernel) (by decide +kernel), g_mem 82 (by decide +kernel) rfl, by decide, fun _ _ h => h⟩
theorem iv_T_empty : Cond.instanceMethod y_T_empty ∈ g_all ∧ Cond.selects y_T_empty.cls y_T_empty y_T_empty ∈ g_all := ⟨g_mem 1204 (by decide +kernel) rfl, g_mem 1205 (by decide +kernel) rfl⟩
theorem e_S_init : g_me y_S_init m_S_init 0 := ⟨by decide +kernel, by decide +kernel, by decide +kernel, g_mem 217 (by decide +kernel) (by decide +kernel), g_mem 83 (by decide +kernel) rfl, by decide, fun _ _ h => h⟩
theorem is_S_init : Cond.instanceMethod y_S_init ∈ g_all ∧ y_S_init.name = "<init>" := ⟨g_mem 216 (by decide +kernel) rfl, rfl⟩
theorem e_S_divide : g_me y_S_divide m_S_divide 1 := ⟨by decide +kernel, by decide +kernel, by decide +kernel, g_mem 293 (by decide +kernel) (by decide +kernel), g_mem 83 (by decide +kernel) rfl, by decide, fun _ _ h => h⟩
theorem iv_S_divide : Cond.instanceMethod y_S_divide ∈ g_all ∧ Cond.selects y_S_divide.cls y_S_divide y_S_divide ∈ g_all := ⟨g_mem 291 (by decide +kernel) rfl, g_mem 292 (by decide +kernel) rfl⟩
theorem e_S_partByRides : g_me y_S_partByRides m_S_partByRides 3 := ⟨by decide +kernel, by decide +kernel, by decide +kernel, g_mem 305 (by decide +kernel) (by decide +kernel), g_mem 83 (by decide +kernel) rfl, by decide, fun _ _ h => h⟩
theorem st_S_partByRides : Cond.static y_S_partByRides ∈ g_all := g_mem 304 (by decide +kernel) rfl
theorem e_S_partOf : g_me y_S_partOf m_S_partOf 1 := ⟨by decide +kernel, by decide +kernel, by decide +kernel, g_mem 309 (by decide +kernel) (by decide +kernel), g_mem 83 (by decide +kernel) rfl, by decide, fun _ _ h => h⟩
theorem iv_S_partOf : Cond.instanceMethod y_S_partOf ∈ g_all ∧ Cond.selects y_S_partOf.cls y_S_partOf y_S_partOf ∈ g_all := ⟨g_mem 307 (by decide +kernel) rfl, g_mem 308 (by decide +kernel) rfl⟩
theorem e_G_wayTo : g_me y_G_wayTo m_G_wayTo 1 := ⟨by decide +kernel, by decide +kernel, by decide +kernel, g_mem 342 (by decide +kernel) (by decide +kernel), g_mem 93 (by decide +kernel) rfl, by decide, fun _ _ h => h⟩
theorem iv_G_wayTo : Cond.instanceMethod y_G_wayTo ∈ g_all ∧ Cond.selects y_G_wayTo.cls y_G_wayTo y_G_wayTo ∈ g_all := ⟨g_mem 340 (by decide +kernel) rfl, g_mem 341 (by decide +kernel) rfl⟩
theorem e_G_init : g_me y_G_init m_G_init 3 := ⟨by decide +kernel, by decide +kernel, by decide +kernel, g_mem 485 (by decide +kernel) (by decide +kernel), g_mem 93 (by decide +kernel) rfl, by decide, fun _ _ h => h⟩
theorem is_G_init : Cond.instanceMethod y_G_init ∈ g_all ∧ y_G_init.name = "<init>" := ⟨g_mem 484 (by decide +kernel) rfl, rfl⟩
theorem e_P_init : g_me y_P_init m_P_init 7 := ⟨by decide +kernel, by decide +kernel, by decide +kernel, g_mem 521 (by decide +kernel) (by decide +kernel), g_mem 94 (by decide +kernel) rfl, by decide, fun _ _ h => h⟩
theorem is_P_init : Cond.instanceMethod y_P_init ∈ g_all ∧ y_P_init.name = "<init>" := ⟨g_mem 520 (by decide +kernel) rfl, rfl⟩
theorem e_P_isFor : g_me y_P_isFor m_P_isFor 1 := ⟨by decide +kernel, by decide +kernel, by decide +kernel, g_mem 654 (by decide +kernel) (by decide +kernel), g_mem 94 (by decide +kernel) rfl, by decide, fun _ _ h => h⟩
theorem iv_P_isFor : Cond.instanceMethod y_P_isFor ∈ g_all ∧ Cond.selects y_P_isFor.cls y_P_isFor y_P_isFor ∈ g_all := ⟨g_mem 652 (by decide +kernel) rfl, g_mem 653 (by decide +kernel) rfl⟩
theorem e_P_isForHour : g_me y_P_isForHour m_P_isForHour 1 := ⟨by decide +kernel, by decide +kernel, by decide +kernel, g_mem 822 (by decide +kernel) (by decide +kernel), g_mem 94 (by decide +kernel) rfl, by decide, fun _ _ h => h⟩
theorem iv_P_isForHour : Cond.instanceMethod y_P_isForHour ∈ g_all ∧ Cond.selects y_P_isForHour.cls y_P_isForHour y_P_isForHour ∈ g_all := ⟨g_mem 820 (by decide +kernel) rfl, g_mem 821 (by decide +kernel) rfl⟩
theorem e_P_refundPerDay : g_me y_P_refundPerDay m_P_refundPerDay 0 := ⟨by decide +kernel, by decide +kernel, by decide +kernel, g_mem 1044 (by decide +kernel) (by decide +kernel), g_mem 94 (by decide +kernel) rfl, by decide, fun _ _ h => h⟩
theorem iv_P_refundPerDay : Cond.instanceMethod y_P_refundPerDay ∈ g_all ∧ Cond.selects y_P_refundPerDay.cls y_P_refundPerDay y_P_refundPerDay ∈ g_all := ⟨g_mem 1042 (by decide +kernel) rfl, g_mem 1043 (by decide +kernel) rfl⟩
theorem e_I_init : g_me y_I_init m_I_init 3 := ⟨by decide +kernel, by decide +kernel, by decide +kernel, g_mem 877 (by decide +kernel) (by decide +kernel), g_mem 101 (by decide +kernel) rfl, by decide, fun _ _ h => h⟩
theorem is_I_init : Cond.instanceMethod y_I_init ∈ g_all ∧ y_I_init.name = "<init>" := ⟨g_mem 876 (by decide +kernel) rfl, rfl⟩
theorem e_C_price : g_me y_C_price m_C_price 0 := ⟨by decide +kernel, by decide +kernel, by decide +kernel, g_mem 277 (by decide +kernel) (by decide +kernel), g_mem 98 (by decide +kernel) rfl, by decide, fun _ _ h => h⟩
theorem iv_C_price : Cond.instanceMethod y_C_price ∈ g_all ∧ Cond.selects y_C_price.cls y_C_price y_C_price ∈ g_all := ⟨g_mem 275 (by decide +kernel) rfl, g_mem 276 (by decide +kernel) rfl⟩
theorem e_C_ridesAt : g_me y_C_ridesAt m_C_ridesAt 1 := ⟨by decide +kernel, by decide +kernel, by decide +kernel, g_mem 298 (by decide +kernel) (by decide +kernel), g_mem 98 (by decide +kernel) rfl, by decide, fun _ _ h => h⟩
theorem iv_C_ridesAt : Cond.instanceMethod y_C_ridesAt ∈ g_all ∧ Cond.selects y_C_ridesAt.cls y_C_ridesAt y_C_ridesAt ∈ g_all := ⟨g_mem 296 (by decide +kernel) rfl, g_mem 297 (by decide +kernel) rfl⟩
theorem e_C_rideCount : g_me y_C_rideCount m_C_rideCount 0 := ⟨by decide +kernel, by decide +kernel, by decide +kernel, g_mem 302 (by decide +kernel) (by decide +kernel), g_mem 98 (by decide +kernel) rfl, by decide, fun _ _ h => h⟩
theorem iv_C_rideCount : Cond.instanceMethod y_C_rideCount ∈ g_all ∧ Cond.selects y_C_rideCount.cls y_C_rideCount y_C_rideCount ∈ g_all := ⟨g_mem 300 (by decide +kernel) rfl, g_mem 301 (by decide +kernel) rfl⟩
theorem e_C_ridesThrough : g_me y_C_ridesThrough m_C_ridesThrough 1 := ⟨by decide +kernel, by decide +kernel, by decide +kernel, g_mem 326 (by decide +kernel) (by decide +kernel), g_mem 98 (by decide +kernel) rfl, by decide, fun _ _ h => h⟩
theorem iv_C_ridesThrough : Cond.instanceMethod y_C_ridesThrough ∈ g_all ∧ Cond.selects y_C_ridesThrough.cls y_C_ridesThrough y_C_ridesThrough ∈ g_all := ⟨g_mem 324 (by decide +kernel) rfl, g_mem 325 (by decide +kernel) rfl⟩
theorem e_C_keepsWays : g_me y_C_keepsWays m_C_keepsWays 0 := ⟨by decide +kernel, by decide +kernel, by decide +kernel, g_mem 338 (by decide +kernel) (by decide +kernel), g_mem 98 (by decide +kernel) rfl, by decide, fun _ _ h => h⟩
theorem iv_C_keepsWays : Cond.instanceMethod y_C_keepsWays ∈ g_all ∧ Cond.selects y_C_keepsWays.cls y_C_keepsWays y_C_keepsWays ∈ g_all := ⟨g_mem 336 (by decide +kernel) rfl, g_mem 337 (by decide +kernel) rfl⟩
theorem e_C_init : g_me y_C_init m_C_init 6 := ⟨by decide +kernel, by decide +kernel, by decide +kernel, g_mem 761 (by decide +kernel) (by decide +kernel), g_mem 98 (by decide +kernel) rfl, by decide, fun _ _ h => h⟩
theorem is_C_init : Cond.instanceMethod y_C_init ∈ g_all ∧ y_C_init.name = "<init>" := ⟨g_mem 760 (by decide +kernel) rfl, rfl⟩
theorem e_C_isValidForRideOn : g_me y_C_isValidForRideOn m_C_isValidForRideOn 1 := ⟨by decide +kernel, by decide +kernel, by decide +kernel, g_mem 828 (by decide +kernel) (by decide +kernel), g_mem 98 (by decide +kernel) rfl, by decide, fun _ _ h => h⟩
theorem iv_C_isValidForRideOn : Cond.instanceMethod y_C_isValidForRideOn ∈ g_all ∧ Cond.selects y_C_isValidForRideOn.cls y_C_isValidForRideOn y_C_isValidForRideOn ∈ g_all := ⟨g_mem 826 (by decide +kernel) rfl, g_mem 827 (by decide +kernel) rfl⟩
theorem e_C_daysSinceFirst : g_me y_C_daysSinceFirst m_C_daysSinceFirst 1 := ⟨by decide +kernel, by decide +kernel, by decide +kernel, g_mem 832 (by decide +kernel) (by decide +kernel), g_mem 98 (by decide +kernel) rfl, by decide, fun _ _ h => h⟩
theorem iv_C_daysSinceFirst : Cond.instanceMethod y_C_daysSinceFirst ∈ g_all ∧ Cond.selects y_C_daysSinceFirst.cls y_C_daysSinceFirst y_C_daysSinceFirst ∈ g_all := ⟨g_mem 830 (by decide +kernel) rfl, g_mem 831 (by decide +kernel) rfl⟩
theorem e_C_dayMask : g_me y_C_dayMask m_C_dayMask 0 := ⟨by decide +kernel, by decide +kernel, by decide +kernel, g_mem 840 (by decide +kernel) (by decide +kernel), g_mem 98 (by decide +kernel) rfl, by decide, fun _ _ h => h⟩
theorem iv_C_dayMask : Cond.instanceMethod y_C_dayMask ∈ g_all ∧ Cond.selects y_C_dayMask.cls y_C_dayMask y_C_dayMask ∈ g_all := ⟨g_mem 838 (by decide +kernel) rfl, g_mem 839 (by decide +kernel) rfl⟩
theorem e_C_withRide : g_me y_C_withRide m_C_withRide 1 := ⟨by decide +kernel, by decide +kernel, by decide +kernel, g_mem 908 (by decide +kernel) (by decide +kernel), g_mem 98 (by decide +kernel) rfl, by decide, fun _ _ h => h⟩
theorem iv_C_withRide : Cond.instanceMethod y_C_withRide ∈ g_all ∧ Cond.selects y_C_withRide.cls y_C_withRide y_C_withRide ∈ g_all := ⟨g_mem 906 (by decide +kernel) rfl, g_mem 907 (by decide +kernel) rfl⟩
theorem e_C_isSettled : g_me y_C_isSettled m_C_isSettled 0 := ⟨by decide +kernel, by decide +kernel, by decide +kernel, g_mem 969 (by decide +kernel) (by decide +kernel), g_mem 98 (by decide +kernel) rfl, by decide, fun _ _ h => h⟩
theorem iv_C_isSettled : Cond.instanceMethod y_C_isSettled ∈ g_all ∧ Cond.selects y_C_isSettled.cls y_C_isSettled y_C_isSettled ∈ g_all := ⟨g_mem 967 (by decide +kernel) rfl, g_mem 968 (by decide +kernel) rfl⟩
theorem e_C_withBlock : g_me y_C_withBlock m_C_withBlock 1 := ⟨by decide +kernel, by decide +kernel, by decide +kernel, g_mem 978 (by decide +kernel) (by decide +kernel), g_mem 98 (by decide +kernel) rfl, by decide, fun _ _ h => h⟩
theorem iv_C_withBlock : Cond.instanceMethod y_C_withBlock ∈ g_all ∧ Cond.selects y_C_withBlock.cls y_C_withBlock y_C_withBlock ∈ g_all := ⟨g_mem 976 (by decide +kernel) rfl, g_mem 977 (by decide +kernel) rfl⟩
theorem e_C_replacedBy : g_me y_C_replacedBy m_C_replacedBy 1 := ⟨by decide +kernel, by decide +kernel, by decide +kernel, g_mem 994 (by decide +kernel) (by decide +kernel), g_mem 98 (by decide +kernel) rfl, by decide, fun _ _ h => h⟩
theorem iv_C_replacedBy : Cond.instanceMethod y_C_replacedBy ∈ g_all ∧ Cond.selects y_C_replacedBy.cls y_C_replacedBy y_C_replacedBy ∈ g_all := ⟨g_mem 992 (by decide +kernel) rfl, g_mem 993 (by decide +kernel) rfl⟩
theorem e_C_leftOn : g_me y_C_leftOn m_C_leftOn 1 := ⟨by decide +kernel, by decide +kernel, by decide +kernel, g_mem 1014 (by decide +kernel) (by decide +kernel), g_mem 98 (by decide +kernel) rfl, by decide, fun _ _ h => h⟩
theorem iv_C_leftOn : Cond.instanceMethod y_C_leftOn ∈ g_all ∧ Cond.selects y_C_leftOn.cls y_C_leftOn y_C_leftOn ∈ g_all := ⟨g_mem 1012 (by decide +kernel) rfl, g_mem 1013 (by decide +kernel) rfl⟩
theorem e_C_rideAt : g_me y_C_rideAt m_C_rideAt 1 := ⟨by decide +kernel, by decide +kernel, by decide +kernel, g_mem 1027 (by decide +kernel) (by decide +kernel), g_mem 98 (by decide +kernel) rfl, by decide, fun _ _ h => h⟩
theorem iv_C_rideAt : Cond.instanceMethod y_C_rideAt ∈ g_all ∧ Cond.selects y_C_rideAt.cls y_C_rideAt y_C_rideAt ∈ g_all := ⟨g_mem 1025 (by decide +kernel) rfl, g_mem 1026 (by decide +kernel) rfl⟩
theorem e_C_paidBack : g_me y_C_paidBack m_C_paidBack 1 := ⟨by decide +kernel, by decide +kernel, by decide +kernel, g_mem 1066 (by decide +kernel) (by decide +kernel), g_mem 98 (by decide +kernel) rfl, by decide, fun _ _ h => h⟩
theorem iv_C_paidBack : Cond.instanceMethod y_C_paidBack ∈ g_all ∧ Cond.selects y_C_paidBack.cls y_C_paidBack y_C_paidBack ∈ g_all := ⟨g_mem 1064 (by decide +kernel) rfl, g_mem 1065 (by decide +kernel) rfl⟩
theorem e_M_init : g_me y_M_init m_M_init 0 := ⟨by decide +kernel, by decide +kernel, by decide +kernel, g_mem 1288 (by decide +kernel) (by decide +kernel), g_mem 84 (by decide +kernel) rfl, by decide, fun _ _ h => h⟩
theorem is_M_init : Cond.instanceMethod y_M_init ∈ g_all ∧ y_M_init.name = "<init>" := ⟨g_mem 1287 (by decide +kernel) rfl, rfl⟩
theorem e_M_thrown : g_me y_M_thrown m_M_thrown 0 := ⟨by decide +kernel, by decide +kernel, by decide +kernel, g_mem 1348 (by decide +kernel) (by decide +kernel), g_mem 84 (by decide +kernel) rfl, by decide, fun _ _ h => h⟩
theorem iv_M_thrown : Cond.instanceMethod y_M_thrown ∈ g_all ∧ Cond.selects y_M_thrown.cls y_M_thrown y_M_thrown ∈ g_all := ⟨g_mem 1346 (by decide +kernel) rfl, g_mem 1347 (by decide +kernel) rfl⟩
theorem e_M_clear : g_me y_M_clear m_M_clear 0 := ⟨by decide +kernel, by decide +kernel, by decide +kernel, g_mem 1352 (by decide +kernel) (by decide +kernel), g_mem 84 (by decide +kernel) rfl, by decide, fun _ _ h => h⟩
theorem iv_M_clear : Cond.instanceMethod y_M_clear ∈ g_all ∧ Cond.selects y_M_clear.cls y_M_clear y_M_clear ∈ g_all := ⟨g_mem 1350 (by decide +kernel) rfl, g_mem 1351 (by decide +kernel) rfl⟩
theorem e_M_addGate : g_me y_M_addGate m_M_addGate 2 := ⟨by decide +kernel, by decide +kernel, by decide +kernel, g_mem 1356 (by decide +kernel) (by decide +kernel), g_mem 84 (by decide +kernel) rfl, by decide, fun _ _ h => h⟩
theorem iv_M_addGate : Cond.instanceMethod y_M_addGate ∈ g_all ∧ Cond.selects y_M_addGate.cls y_M_addGate y_M_addGate ∈ g_all := ⟨g_mem 1354 (by decide +kernel) rfl, g_mem 1355 (by decide +kernel) rfl⟩
theorem e_M_isIn : g_me y_M_isIn m_M_isIn 3 := ⟨by decide +kernel, by decide +kernel, by decide +kernel, g_mem 1359 (by decide +kernel) (by decide +kernel), g_mem 84 (by decide +kernel) rfl, by decide, fun _ _ h => h⟩
theorem st_M_isIn : Cond.static y_M_isIn ∈ g_all := g_mem 1358 (by decide +kernel) rfl
theorem e_M_fail : g_me y_M_fail m_M_fail 1 := ⟨by decide +kernel, by decide +kernel, by decide +kernel, g_mem 1363 (by decide +kernel) (by decide +kernel), g_mem 84 (by decide +kernel) rfl, by decide, fun _ _ h => h⟩
theorem iv_M_fail : Cond.instanceMethod y_M_fail ∈ g_all ∧ Cond.selects y_M_fail.cls y_M_fail y_M_fail ∈ g_all := ⟨g_mem 1362 (by decide +kernel) rfl, g_mem 23 (by decide +kernel) rfl⟩
theorem e_M_changes : g_me y_M_changes m_M_changes 0 := ⟨by decide +kernel, by decide +kernel, by decide +kernel, g_mem 1367 (by decide +kernel) (by decide +kernel), g_mem 84 (by decide +kernel) rfl, by decide, fun _ _ h => h⟩
theorem iv_M_changes : Cond.instanceMethod y_M_changes ∈ g_all ∧ Cond.selects y_M_changes.cls y_M_changes y_M_changes ∈ g_all := ⟨g_mem 1366 (by decide +kernel) rfl, g_mem 24 (by decide +kernel) rfl⟩
theorem e_M_keepTried : g_me y_M_keepTried m_M_keepTried 0 := ⟨by decide +kernel, by decide +kernel, by decide +kernel, g_mem 1371 (by decide +kernel) (by decide +kernel), g_mem 84 (by decide +kernel) rfl, by decide, fun _ _ h => h⟩
theorem iv_M_keepTried : Cond.instanceMethod y_M_keepTried ∈ g_all ∧ Cond.selects y_M_keepTried.cls y_M_keepTried y_M_keepTried ∈ g_all := ⟨g_mem 1370 (by decide +kernel) rfl, g_mem 25 (by decide +kernel) rfl⟩
theorem e_M_remember : g_me y_M_remember m_M_remember 0 := ⟨by decide +kernel, by decide +kernel, by decide +kernel, g_mem 1375 (by decide +kernel) (by decide +kernel), g_mem 84 (by decide +kernel) rfl, by decide, fun _ _ h => h⟩
theorem iv_M_remember : Cond.instanceMethod y_M_remember ∈ g_all ∧ Cond.selects y_M_remember.cls y_M_remember y_M_remember ∈ g_all := ⟨g_mem 1374 (by decide +kernel) rfl, g_mem 26 (by decide +kernel) rfl⟩
theorem e_M_addProduct : g_me y_M_addProduct m_M_addProduct 6 := ⟨by decide +kernel, by decide +kernel, by decide +kernel, g_mem 1379 (by decide +kernel) (by decide +kernel), g_mem 84 (by decide +kernel) rfl, by decide, fun _ _ h => h⟩
theorem iv_M_addProduct : Cond.instanceMethod y_M_addProduct ∈ g_all ∧ Cond.selects y_M_addProduct.cls y_M_addProduct y_M_addProduct ∈ g_all := ⟨g_mem 1377 (by decide +kernel) rfl, g_mem 1378 (by decide +kernel) rfl⟩
theorem e_M_gate : g_me y_M_gate m_M_gate 2 := ⟨by decide +kernel, by decide +kernel, by decide +kernel, g_mem 1383 (by decide +kernel) (by decide +kernel), g_mem 84 (by decide +kernel) rfl, by decide, fun _ _ h => h⟩
theorem iv_M_gate : Cond.instanceMethod y_M_gate ∈ g_all ∧ Cond.selects y_M_gate.cls y_M_gate y_M_gate ∈ g_all := ⟨g_mem 1381 (by decide +kernel) rfl, g_mem 1382 (by decide +kernel) rfl⟩
theorem e_M_isGate : g_me y_M_isGate m_M_isGate 1 := ⟨by decide +kernel, by decide +kernel, by decide +kernel, g_mem 1387 (by decide +kernel) (by decide +kernel), g_mem 84 (by decide +kernel) rfl, by decide, fun _ _ h => h⟩
theorem iv_M_isGate : Cond.instanceMethod y_M_isGate ∈ g_all ∧ Cond.selects y_M_isGate.cls y_M_isGate y_M_isGate ∈ g_all := ⟨g_mem 1386 (by decide +kernel) rfl, g_mem 27 (by decide +kernel) rfl⟩
theorem e_M_g : g_me y_M_g m_M_g 2 := ⟨by decide +kernel, by decide +kernel, by decide +kernel, g_mem 1391 (by decide +kernel) (by decide +kernel), g_mem 84 (by decide +kernel) rfl, by decide, fun _ _ h => h⟩
theorem iv_M_g : Cond.instanceMethod y_M_g ∈ g_all ∧ Cond.selects y_M_g.cls y_M_g y_M_g ∈ g_all := ⟨g_mem 1390 (by decide +kernel) rfl, g_mem 28 (by decide +kernel) rfl⟩
theorem e_M_ridesAt : g_me y_M_ridesAt m_M_ridesAt 1 := ⟨by decide +kernel, by decide +kernel, by decide +kernel, g_mem 1395 (by decide +kernel) (by decide +kernel), g_mem 84 (by decide +kernel) rfl, by decide, fun _ _ h => h⟩
theorem iv_M_ridesAt : Cond.instanceMethod y_M_ridesAt ∈ g_all ∧ Cond.selects y_M_ridesAt.cls y_M_ridesAt y_M_ridesAt ∈ g_all := ⟨g_mem 1394 (by decide +kernel) rfl, g_mem 29 (by decide +kernel) rfl⟩
theorem e_M_rideOf : g_me y_M_rideOf m_M_rideOf 2 := ⟨by decide +kernel, by decide +kernel, by decide +kernel, g_mem 1399 (by decide +kernel) (by decide +kernel), g_mem 84 (by decide +kernel) rfl, by decide, fun _ _ h => h⟩
theorem iv_M_rideOf : Cond.instanceMethod y_M_rideOf ∈ g_all ∧ Cond.selects y_M_rideOf.cls y_M_rideOf y_M_rideOf ∈ g_all := ⟨g_mem 1398 (by decide +kernel) rfl, g_mem 30 (by decide +kernel) rfl⟩
theorem e_M_today : g_me y_M_today m_M_today 0 := ⟨by decide +kernel, by decide +kernel, by decide +kernel, g_mem 1403 (by decide +kernel) (by decide +kernel), g_mem 84 (by decide +kernel) rfl, by decide, fun _ _ h => h⟩
theorem iv_M_today : Cond.instanceMethod y_M_today ∈ g_all ∧ Cond.selects y_M_today.cls y_M_today y_M_today ∈ g_all := ⟨g_mem 1402 (by decide +kernel) rfl, g_mem 31 (by decide +kernel) rfl⟩
theorem e_M_closedOn : g_me y_M_closedOn m_M_closedOn 2 := ⟨by decide +kernel, by decide +kernel, by decide +kernel, g_mem 1407 (by decide +kernel) (by decide +kernel), g_mem 84 (by decide +kernel) rfl, by decide, fun _ _ h => h⟩
theorem iv_M_closedOn : Cond.instanceMethod y_M_closedOn ∈ g_all ∧ Cond.selects y_M_closedOn.cls y_M_closedOn y_M_closedOn ∈ g_all := ⟨g_mem 1406 (by decide +kernel) rfl, g_mem 32 (by decide +kernel) rfl⟩
theorem e_M_closedInAll : g_me y_M_closedInAll m_M_closedInAll 1 := ⟨by decide +kernel, by decide +kernel, by decide +kernel, g_mem 1411 (by decide +kernel) (by decide +kernel), g_mem 84 (by decide +kernel) rfl, by decide, fun _ _ h => h⟩
theorem iv_M_closedInAll : Cond.instanceMethod y_M_closedInAll ∈ g_all ∧ Cond.selects y_M_closedInAll.cls y_M_closedInAll y_M_closedInAll ∈ g_all := ⟨g_mem 1410 (by decide +kernel) rfl, g_mem 33 (by decide +kernel) rfl⟩
theorem e_M_product : g_me y_M_product m_M_product 2 := ⟨by decide +kernel, by decide +kernel, by decide +kernel, g_mem 1415 (by decide +kernel) (by decide +kernel), g_mem 84 (by decide +kernel) rfl, by decide, fun _ _ h => h⟩
theorem iv_M_product : Cond.instanceMethod y_M_product ∈ g_all ∧ Cond.selects y_M_product.cls y_M_product y_M_product ∈ g_all := ⟨g_mem 1413 (by decide +kernel) rfl, g_mem 1414 (by decide +kernel) rfl⟩
theorem e_M_isProduct : g_me y_M_isProduct m_M_isProduct 1 := ⟨by decide +kernel, by decide +kernel, by decide +kernel, g_mem 1419 (by decide +kernel) (by decide +kernel), g_mem 84 (by decide +kernel) rfl, by decide, fun _ _ h => h⟩
theorem iv_M_isProduct : Cond.instanceMethod y_M_isProduct ∈ g_all ∧ Cond.selects y_M_isProduct.cls y_M_isProduct y_M_isProduct ∈ g_all := ⟨g_mem 1418 (by decide +kernel) rfl, g_mem 34 (by decide +kernel) rfl⟩
theorem e_M_p : g_me y_M_p m_M_p 2 := ⟨by decide +kernel, by decide +kernel, by decide +kernel, g_mem 1423 (by decide +kernel) (by decide +kernel), g_mem 84 (by decide +kernel) rfl, by decide, fun _ _ h => h⟩
theorem iv_M_p : Cond.instanceMethod y_M_p ∈ g_all ∧ Cond.selects y_M_p.cls y_M_p y_M_p ∈ g_all := ⟨g_mem 1422 (by decide +kernel) rfl, g_mem 35 (by decide +kernel) rfl⟩
theorem e_M_gatesOf : g_me y_M_gatesOf m_M_gatesOf 1 := ⟨by decide +kernel, by decide +kernel, by decide +kernel, g_mem 1427 (by decide +kernel) (by decide +kernel), g_mem 84 (by decide +kernel) rfl, by decide, fun _ _ h => h⟩
theorem iv_M_gatesOf : Cond.instanceMethod y_M_gatesOf ∈ g_all ∧ Cond.selects y_M_gatesOf.cls y_M_gatesOf y_M_gatesOf ∈ g_all := ⟨g_mem 1426 (by decide +kernel) rfl, g_mem 36 (by decide +kernel) rfl⟩
theorem e_M_has : g_me y_M_has m_M_has 2 := ⟨by decide +kernel, by decide +kernel, by decide +kernel, g_mem 1430 (by decide +kernel) (by decide +kernel), g_mem 84 (by decide +kernel) rfl, by decide, fun _ _ h => h⟩
theorem st_M_has : Cond.static y_M_has ∈ g_all := g_mem 1429 (by decide +kernel) rfl
theorem e_M_cardsWith : g_me y_M_cardsWith m_M_cardsWith 2 := ⟨by decide +kernel, by decide +kernel, by decide +kernel, g_mem 1434 (by decide +kernel) (by decide +kernel), g_mem 84 (by decide +kernel) rfl, by decide, fun _ _ h => h⟩
theorem iv_M_cardsWith : Cond.instanceMethod y_M_cardsWith ∈ g_all ∧ Cond.selects y_M_cardsWith.cls y_M_cardsWith y_M_cardsWith ∈ g_all := ⟨g_mem 1433 (by decide +kernel) rfl, g_mem 37 (by decide +kernel) rfl⟩
theorem e_M_c : g_me y_M_c m_M_c 2 := ⟨by decide +kernel, by decide +kernel, by decide +kernel, g_mem 1438 (by decide +kernel) (by decide +kernel), g_mem 84 (by decide +kernel) rfl, by decide, fun _ _ h => h⟩
theorem iv_M_c : Cond.instanceMethod y_M_c ∈ g_all ∧ Cond.selects y_M_c.cls y_M_c y_M_c ∈ g_all := ⟨g_mem 1437 (by decide +kernel) rfl, g_mem 38 (by decide +kernel) rfl⟩
theorem e_M_way : g_me y_M_way m_M_way 2 := ⟨by decide +kernel, by decide +kernel, by decide +kernel, g_mem 1442 (by decide +kernel) (by decide +kernel), g_mem 84 (by decide +kernel) rfl, by decide, fun _ _ h => h⟩
theorem iv_M_way : Cond.instanceMethod y_M_way ∈ g_all ∧ Cond.selects y_M_way.cls y_M_way y_M_way ∈ g_all := ⟨g_mem 1440 (by decide +kernel) rfl, g_mem 1441 (by decide +kernel) rfl⟩
theorem e_M_wayOf : g_me y_M_wayOf m_M_wayOf 2 := ⟨by decide +kernel, by decide +kernel, by decide +kernel, g_mem 1446 (by decide +kernel) (by decide +kernel), g_mem 84 (by decide +kernel) rfl, by decide, fun _ _ h => h⟩
theorem iv_M_wayOf : Cond.instanceMethod y_M_wayOf ∈ g_all ∧ Cond.selects y_M_wayOf.cls y_M_wayOf y_M_wayOf ∈ g_all := ⟨g_mem 1445 (by decide +kernel) rfl, g_mem 39 (by decide +kernel) rfl⟩
theorem e_M_advance : g_me y_M_advance m_M_advance 1 := ⟨by decide +kernel, by decide +kernel, by decide +kernel, g_mem 1450 (by decide +kernel) (by decide +kernel), g_mem 84 (by decide +kernel) rfl, by decide, fun _ _ h => h⟩
theorem iv_M_advance : Cond.instanceMethod y_M_advance ∈ g_all ∧ Cond.selects y_M_advance.cls y_M_advance y_M_advance ∈ g_all := ⟨g_mem 1448 (by decide +kernel) rfl, g_mem 1449 (by decide +kernel) rfl⟩
theorem e_M_advanceProblem : g_me y_M_advanceProblem m_M_advanceProblem 1 := ⟨by decide +kernel, by decide +kernel, by decide +kernel, g_mem 1454 (by decide +kernel) (by decide +kernel), g_mem 84 (by decide +kernel) rfl, by decide, fun _ _ h => h⟩
theorem iv_M_advanceProblem : Cond.instanceMethod y_M_advanceProblem ∈ g_all ∧ Cond.selects y_M_advanceProblem.cls y_M_advanceProblem y_M_advanceProblem ∈ g_all := ⟨g_mem 1453 (by decide +kernel) rfl, g_mem 40 (by decide +kernel) rfl⟩
theorem e_M_goesOn : g_me y_M_goesOn m_M_goesOn 1 := ⟨by decide +kernel, by decide +kernel, by decide +kernel, g_mem 1459 (by decide +kernel) (by decide +kernel), g_mem 84 (by decide +kernel) rfl, by decide, fun _ _ h => h⟩
theorem iv_M_goesOn : Cond.instanceMethod y_M_goesOn ∈ g_all ∧ Cond.selects y_M_goesOn.cls y_M_goesOn y_M_goesOn ∈ g_all := ⟨g_mem 1458 (by decide +kernel) rfl, g_mem 41 (by decide +kernel) rfl⟩
theorem e_M_system : g_me y_M_system m_M_system 1 := ⟨by decide +kernel, by decide +kernel, by decide +kernel, g_mem 1463 (by decide +kernel) (by decide +kernel), g_mem 84 (by decide +kernel) rfl, by decide, fun _ _ h => h⟩
theorem iv_M_system : Cond.instanceMethod y_M_system ∈ g_all ∧ Cond.selects y_M_system.cls y_M_system y_M_system ∈ g_all := ⟨g_mem 1461 (by decide +kernel) rfl, g_mem 1462 (by decide +kernel) rfl⟩
theorem e_M_hourNow : g_me y_M_hourNow m_M_hourNow 0 := ⟨by decide +kernel, by decide +kernel, by decide +kernel, g_mem 1467 (by decide +kernel) (by decide +kernel), g_mem 84 (by decide +kernel) rfl, by decide, fun _ _ h => h⟩
theorem iv_M_hourNow : Cond.instanceMethod y_M_hourNow ∈ g_all ∧ Cond.selects y_M_hourNow.cls y_M_hourNow y_M_hourNow ∈ g_all := ⟨g_mem 1466 (by decide +kernel) rfl, g_mem 42 (by decide +kernel) rfl⟩
theorem e_M_closedGates : g_me y_M_closedGates m_M_closedGates 0 := ⟨by decide +kernel, by decide +kernel, by decide +kernel, g_mem 1471 (by decide +kernel) (by decide +kernel), g_mem 84 (by decide +kernel) rfl, by decide, fun _ _ h => h⟩
theorem iv_M_closedGates : Cond.instanceMethod y_M_closedGates ∈ g_all ∧ Cond.selects y_M_closedGates.cls y_M_closedGates y_M_closedGates ∈ g_all := ⟨g_mem 1470 (by decide +kernel) rfl, g_mem 43 (by decide +kernel) rfl⟩
theorem e_M_setClosed : g_me y_M_setClosed m_M_setClosed 2 := ⟨by decide +kernel, by decide +kernel, by decide +kernel, g_mem 1475 (by decide +kernel) (by decide +kernel), g_mem 84 (by decide +kernel) rfl, by decide, fun _ _ h => h⟩
theorem iv_M_setClosed : Cond.instanceMethod y_M_setClosed ∈ g_all ∧ Cond.selects y_M_setClosed.cls y_M_setClosed y_M_setClosed ∈ g_all := ⟨g_mem 1473 (by decide +kernel) rfl, g_mem 1474 (by decide +kernel) rfl⟩
theorem e_M_closedMinutes : g_me y_M_closedMinutes m_M_closedMinutes 2 := ⟨by decide +kernel, by decide +kernel, by decide +kernel, g_mem 1479 (by decide +kernel) (by decide +kernel), g_mem 84 (by decide +kernel) rfl, by decide, fun _ _ h => h⟩
theorem iv_M_closedMinutes : Cond.instanceMethod y_M_closedMinutes ∈ g_all ∧ Cond.selects y_M_closedMinutes.cls y_M_closedMinutes y_M_closedMinutes ∈ g_all := ⟨g_mem 1477 (by decide +kernel) rfl, g_mem 1478 (by decide +kernel) rfl⟩
theorem e_M_isClosedDay : g_me y_M_isClosedDay m_M_isClosedDay 2 := ⟨by decide +kernel, by decide +kernel, by decide +kernel, g_mem 1483 (by decide +kernel) (by decide +kernel), g_mem 84 (by decide +kernel) rfl, by decide, fun _ _ h => h⟩
theorem iv_M_isClosedDay : Cond.instanceMethod y_M_isClosedDay ∈ g_all ∧ Cond.selects y_M_isClosedDay.cls y_M_isClosedDay y_M_isClosedDay ∈ g_all := ⟨g_mem 1481 (by decide +kernel) rfl, g_mem 1482 (by decide +kernel) rfl⟩
theorem e_M_isClosed : g_me y_M_isClosed m_M_isClosed 2 := ⟨by decide +kernel, by decide +kernel, by decide +kernel, g_mem 1487 (by decide +kernel) (by decide +kernel), g_mem 84 (by decide +kernel) rfl, by decide, fun _ _ h => h⟩
theorem iv_M_isClosed : Cond.instanceMethod y_M_isClosed ∈ g_all ∧ Cond.selects y_M_isClosed.cls y_M_isClosed y_M_isClosed ∈ g_all := ⟨g_mem 1486 (by decide +kernel) rfl, g_mem 44 (by decide +kernel) rfl⟩
theorem e_M_sell : g_me y_M_sell m_M_sell 1 := ⟨by decide +kernel, by decide +kernel, by decide +kernel, g_mem 1491 (by decide +kernel) (by decide +kernel), g_mem 84 (by decide +kernel) rfl, by decide, fun _ _ h => h⟩
theorem iv_M_sell : Cond.instanceMethod y_M_sell ∈ g_all ∧ Cond.selects y_M_sell.cls y_M_sell y_M_sell ∈ g_all := ⟨g_mem 1489 (by decide +kernel) rfl, g_mem 1490 (by decide +kernel) rfl⟩
theorem e_M_sellProblem : g_me y_M_sellProblem m_M_sellProblem 1 := ⟨by decide +kernel, by decide +kernel, by decide +kernel, g_mem 1495 (by decide +kernel) (by decide +kernel), g_mem 84 (by decide +kernel) rfl, by decide, fun _ _ h => h⟩
theorem iv_M_sellProblem : Cond.instanceMethod y_M_sellProblem ∈ g_all ∧ Cond.selects y_M_sellProblem.cls y_M_sellProblem y_M_sellProblem ∈ g_all := ⟨g_mem 1494 (by decide +kernel) rfl, g_mem 45 (by decide +kernel) rfl⟩
theorem e_M_comesCard : g_me y_M_comesCard m_M_comesCard 2 := ⟨by decide +kernel, by decide +kernel, by decide +kernel, g_mem 1499 (by decide +kernel) (by decide +kernel), g_mem 84 (by decide +kernel) rfl, by decide, fun _ _ h => h⟩
theorem iv_M_comesCard : Cond.instanceMethod y_M_comesCard ∈ g_all ∧ Cond.selects y_M_comesCard.cls y_M_comesCard y_M_comesCard ∈ g_all := ⟨g_mem 1498 (by decide +kernel) rfl, g_mem 46 (by decide +kernel) rfl⟩
theorem e_M_setC : g_me y_M_setC m_M_setC 3 := ⟨by decide +kernel, by decide +kernel, by decide +kernel, g_mem 1503 (by decide +kernel) (by decide +kernel), g_mem 84 (by decide +kernel) rfl, by decide, fun _ _ h => h⟩
theorem iv_M_setC : Cond.instanceMethod y_M_setC ∈ g_all ∧ Cond.selects y_M_setC.cls y_M_setC y_M_setC ∈ g_all := ⟨g_mem 1502 (by decide +kernel) rfl, g_mem 47 (by decide +kernel) rfl⟩
theorem e_M_pass : g_me y_M_pass m_M_pass 2 := ⟨by decide +kernel, by decide +kernel, by decide +kernel, g_mem 1507 (by decide +kernel) (by decide +kernel), g_mem 84 (by decide +kernel) rfl, by decide, fun _ _ h => h⟩
theorem iv_M_pass : Cond.instanceMethod y_M_pass ∈ g_all ∧ Cond.selects y_M_pass.cls y_M_pass y_M_pass ∈ g_all := ⟨g_mem 1505 (by decide +kernel) rfl, g_mem 1506 (by decide +kernel) rfl⟩
theorem e_M_isCard : g_me y_M_isCard m_M_isCard 1 := ⟨by decide +kernel, by decide +kernel, by decide +kernel, g_mem 1511 (by decide +kernel) (by decide +kernel), g_mem 84 (by decide +kernel) rfl, by decide, fun _ _ h => h⟩
theorem iv_M_isCard : Cond.instanceMethod y_M_isCard ∈ g_all ∧ Cond.selects y_M_isCard.cls y_M_isCard y_M_isCard ∈ g_all := ⟨g_mem 1510 (by decide +kernel) rfl, g_mem 48 (by decide +kernel) rfl⟩
theorem e_M_refusalBy : g_me y_M_refusalBy m_M_refusalBy 2 := ⟨by decide +kernel, by decide +kernel, by decide +kernel, g_mem 1515 (by decide +kernel) (by decide +kernel), g_mem 84 (by decide +kernel) rfl, by decide, fun _ _ h => h⟩
theorem iv_M_refusalBy : Cond.instanceMethod y_M_refusalBy ∈ g_all ∧ Cond.selects y_M_refusalBy.cls y_M_refusalBy y_M_refusalBy ∈ g_all := ⟨g_mem 1514 (by decide +kernel) rfl, g_mem 49 (by decide +kernel) rfl⟩
theorem e_M_isValid : g_me y_M_isValid m_M_isValid 1 := ⟨by decide +kernel, by decide +kernel, by decide +kernel, g_mem 1519 (by decide +kernel) (by decide +kernel), g_mem 84 (by decide +kernel) rfl, by decide, fun _ _ h => h⟩
theorem iv_M_isValid : Cond.instanceMethod y_M_isValid ∈ g_all ∧ Cond.selects y_M_isValid.cls y_M_isValid y_M_isValid ∈ g_all := ⟨g_mem 1518 (by decide +kernel) rfl, g_mem 50 (by decide +kernel) rfl⟩
theorem e_M_ridesOn : g_me y_M_ridesOn m_M_ridesOn 1 := ⟨by decide +kernel, by decide +kernel, by decide +kernel, g_mem 1523 (by decide +kernel) (by decide +kernel), g_mem 84 (by decide +kernel) rfl, by decide, fun _ _ h => h⟩
theorem iv_M_ridesOn : Cond.instanceMethod y_M_ridesOn ∈ g_all ∧ Cond.selects y_M_ridesOn.cls y_M_ridesOn y_M_ridesOn ∈ g_all := ⟨g_mem 1522 (by decide +kernel) rfl, g_mem 51 (by decide +kernel) rfl⟩
theorem e_M_rideAt : g_me y_M_rideAt m_M_rideAt 2 := ⟨by decide +kernel, by decide +kernel, by decide +kernel, g_mem 1527 (by decide +kernel) (by decide +kernel), g_mem 84 (by decide +kernel) rfl, by decide, fun _ _ h => h⟩
theorem iv_M_rideAt : Cond.instanceMethod y_M_rideAt ∈ g_all ∧ Cond.selects y_M_rideAt.cls y_M_rideAt y_M_rideAt ∈ g_all := ⟨g_mem 1526 (by decide +kernel) rfl, g_mem 52 (by decide +kernel) rfl⟩
theorem e_M_daysOf : g_me y_M_daysOf m_M_daysOf 2 := ⟨by decide +kernel, by decide +kernel, by decide +kernel, g_mem 1531 (by decide +kernel) (by decide +kernel), g_mem 84 (by decide +kernel) rfl, by decide, fun _ _ h => h⟩
theorem iv_M_daysOf : Cond.instanceMethod y_M_daysOf ∈ g_all ∧ Cond.selects y_M_daysOf.cls y_M_daysOf y_M_daysOf ∈ g_all := ⟨g_mem 1530 (by decide +kernel) rfl, g_mem 53 (by decide +kernel) rfl⟩
theorem e_M_reason : g_me y_M_reason m_M_reason 2 := ⟨by decide +kernel, by decide +kernel, by decide +kernel, g_mem 1535 (by decide +kernel) (by decide +kernel), g_mem 84 (by decide +kernel) rfl, by decide, fun _ _ h => h⟩
theorem iv_M_reason : Cond.instanceMethod y_M_reason ∈ g_all ∧ Cond.selects y_M_reason.cls y_M_reason y_M_reason ∈ g_all := ⟨g_mem 1533 (by decide +kernel) rfl, g_mem 1534 (by decide +kernel) rfl⟩
theorem e_M_openGates : g_me y_M_openGates m_M_openGates 1 := ⟨by decide +kernel, by decide +kernel, by decide +kernel, g_mem 1539 (by decide +kernel) (by decide +kernel), g_mem 84 (by decide +kernel) rfl, by decide, fun _ _ h => h⟩
theorem iv_M_openGates : Cond.instanceMethod y_M_openGates ∈ g_all ∧ Cond.selects y_M_openGates.cls y_M_openGates y_M_openGates ∈ g_all := ⟨g_mem 1537 (by decide +kernel) rfl, g_mem 1538 (by decide +kernel) rfl⟩
theorem e_M_refusal : g_me y_M_refusal m_M_refusal 1 := ⟨by decide +kernel, by decide +kernel, by decide +kernel, g_mem 1543 (by decide +kernel) (by decide +kernel), g_mem 84 (by decide +kernel) rfl, by decide, fun _ _ h => h⟩
theorem iv_M_refusal : Cond.instanceMethod y_M_refusal ∈ g_all ∧ Cond.selects y_M_refusal.cls y_M_refusal y_M_refusal ∈ g_all := ⟨g_mem 1541 (by decide +kernel) rfl, g_mem 1542 (by decide +kernel) rfl⟩
theorem e_M_block : g_me y_M_block m_M_block 2 := ⟨by decide +kernel, by decide +kernel, by decide +kernel, g_mem 1547 (by decide +kernel) (by decide +kernel), g_mem 84 (by decide +kernel) rfl, by decide, fun _ _ h => h⟩
theorem iv_M_block : Cond.instanceMethod y_M_block ∈ g_all ∧ Cond.selects y_M_block.cls y_M_block y_M_block ∈ g_all := ⟨g_mem 1545 (by decide +kernel) rfl, g_mem 1546 (by decide +kernel) rfl⟩
theorem e_M_stateProblem : g_me y_M_stateProblem m_M_stateProblem 1 := ⟨by decide +kernel, by decide +kernel, by decide +kernel, g_mem 1551 (by decide +kernel) (by decide +kernel), g_mem 84 (by decide +kernel) rfl, by decide, fun _ _ h => h⟩
theorem iv_M_stateProblem : Cond.instanceMethod y_M_stateProblem ∈ g_all ∧ Cond.selects y_M_stateProblem.cls y_M_stateProblem y_M_stateProblem ∈ g_all := ⟨g_mem 1550 (by decide +kernel) rfl, g_mem 54 (by decide +kernel) rfl⟩
theorem e_M_isGone : g_me y_M_isGone m_M_isGone 1 := ⟨by decide +kernel, by decide +kernel, by decide +kernel, g_mem 1555 (by decide +kernel) (by decide +kernel), g_mem 84 (by decide +kernel) rfl, by decide, fun _ _ h => h⟩
theorem iv_M_isGone : Cond.instanceMethod y_M_isGone ∈ g_all ∧ Cond.selects y_M_isGone.cls y_M_isGone y_M_isGone ∈ g_all := ⟨g_mem 1554 (by decide +kernel) rfl, g_mem 55 (by decide +kernel) rfl⟩
theorem e_M_replace : g_me y_M_replace m_M_replace 1 := ⟨by decide +kernel, by decide +kernel, by decide +kernel, g_mem 1559 (by decide +kernel) (by decide +kernel), g_mem 84 (by decide +kernel) rfl, by decide, fun _ _ h => h⟩
theorem iv_M_replace : Cond.instanceMethod y_M_replace ∈ g_all ∧ Cond.selects y_M_replace.cls y_M_replace y_M_replace ∈ g_all := ⟨g_mem 1557 (by decide +kernel) rfl, g_mem 1558 (by decide +kernel) rfl⟩
theorem e_M_replaceProblem : g_me y_M_replaceProblem m_M_replaceProblem 1 := ⟨by decide +kernel, by decide +kernel, by decide +kernel, g_mem 1563 (by decide +kernel) (by decide +kernel), g_mem 84 (by decide +kernel) rfl, by decide, fun _ _ h => h⟩
theorem iv_M_replaceProblem : Cond.instanceMethod y_M_replaceProblem ∈ g_all ∧ Cond.selects y_M_replaceProblem.cls y_M_replaceProblem y_M_replaceProblem ∈ g_all := ⟨g_mem 1562 (by decide +kernel) rfl, g_mem 56 (by decide +kernel) rfl⟩
theorem e_M_replaces : g_me y_M_replaces m_M_replaces 1 := ⟨by decide +kernel, by decide +kernel, by decide +kernel, g_mem 1567 (by decide +kernel) (by decide +kernel), g_mem 84 (by decide +kernel) rfl, by decide, fun _ _ h => h⟩
theorem iv_M_replaces : Cond.instanceMethod y_M_replaces ∈ g_all ∧ Cond.selects y_M_replaces.cls y_M_replaces y_M_replaces ∈ g_all := ⟨g_mem 1566 (by decide +kernel) rfl, g_mem 57 (by decide +kernel) rfl⟩
theorem e_M_card : g_me y_M_card m_M_card 2 := ⟨by decide +kernel, by decide +kernel, by decide +kernel, g_mem 1571 (by decide +kernel) (by decide +kernel), g_mem 84 (by decide +kernel) rfl, by decide, fun _ _ h => h⟩
theorem iv_M_card : Cond.instanceMethod y_M_card ∈ g_all ∧ Cond.selects y_M_card.cls y_M_card y_M_card ∈ g_all := ⟨g_mem 1569 (by decide +kernel) rfl, g_mem 1570 (by decide +kernel) rfl⟩
theorem e_M_lastOf : g_me y_M_lastOf m_M_lastOf 1 := ⟨by decide +kernel, by decide +kernel, by decide +kernel, g_mem 1575 (by decide +kernel) (by decide +kernel), g_mem 84 (by decide +kernel) rfl, by decide, fun _ _ h => h⟩
theorem iv_M_lastOf : Cond.instanceMethod y_M_lastOf ∈ g_all ∧ Cond.selects y_M_lastOf.cls y_M_lastOf y_M_lastOf ∈ g_all := ⟨g_mem 1574 (by decide +kernel) rfl, g_mem 58 (by decide +kernel) rfl⟩
theorem e_M_leftOn : g_me y_M_leftOn m_M_leftOn 1 := ⟨by decide +kernel, by decide +kernel, by decide +kernel, g_mem 1579 (by decide +kernel) (by decide +kernel), g_mem 84 (by decide +kernel) rfl, by decide, fun _ _ h => h⟩
theorem iv_M_leftOn : Cond.instanceMethod y_M_leftOn ∈ g_all ∧ Cond.selects y_M_leftOn.cls y_M_leftOn y_M_leftOn ∈ g_all := ⟨g_mem 1578 (by decide +kernel) rfl, g_mem 59 (by decide +kernel) rfl⟩
theorem e_M_ride : g_me y_M_ride m_M_ride 3 := ⟨by decide +kernel, by decide +kernel, by decide +kernel, g_mem 1583 (by decide +kernel) (by decide +kernel), g_mem 84 (by decide +kernel) rfl, by decide, fun _ _ h => h⟩
theorem iv_M_ride : Cond.instanceMethod y_M_ride ∈ g_all ∧ Cond.selects y_M_ride.cls y_M_ride y_M_ride ∈ g_all := ⟨g_mem 1581 (by decide +kernel) rfl, g_mem 1582 (by decide +kernel) rfl⟩
theorem e_M_refundable : g_me y_M_refundable m_M_refundable 1 := ⟨by decide +kernel, by decide +kernel, by decide +kernel, g_mem 1587 (by decide +kernel) (by decide +kernel), g_mem 84 (by decide +kernel) rfl, by decide, fun _ _ h => h⟩
theorem iv_M_refundable : Cond.instanceMethod y_M_refundable ∈ g_all ∧ Cond.selects y_M_refundable.cls y_M_refundable y_M_refundable ∈ g_all := ⟨g_mem 1585 (by decide +kernel) rfl, g_mem 1586 (by decide +kernel) rfl⟩
theorem e_M_refundOf : g_me y_M_refundOf m_M_refundOf 1 := ⟨by decide +kernel, by decide +kernel, by decide +kernel, g_mem 1591 (by decide +kernel) (by decide +kernel), g_mem 84 (by decide +kernel) rfl, by decide, fun _ _ h => h⟩
theorem iv_M_refundOf : Cond.instanceMethod y_M_refundOf ∈ g_all ∧ Cond.selects y_M_refundOf.cls y_M_refundOf y_M_refundOf ∈ g_all := ⟨g_mem 1590 (by decide +kernel) rfl, g_mem 60 (by decide +kernel) rfl⟩
theorem e_M_refund : g_me y_M_refund m_M_refund 1 := ⟨by decide +kernel, by decide +kernel, by decide +kernel, g_mem 1595 (by decide +kernel) (by decide +kernel), g_mem 84 (by decide +kernel) rfl, by decide, fun _ _ h => h⟩
theorem iv_M_refund : Cond.instanceMethod y_M_refund ∈ g_all ∧ Cond.selects y_M_refund.cls y_M_refund y_M_refund ∈ g_all := ⟨g_mem 1593 (by decide +kernel) rfl, g_mem 1594 (by decide +kernel) rfl⟩
theorem e_M_share : g_me y_M_share m_M_share 2 := ⟨by decide +kernel, by decide +kernel, by decide +kernel, g_mem 1599 (by decide +kernel) (by decide +kernel), g_mem 84 (by decide +kernel) rfl, by decide, fun _ _ h => h⟩
theorem iv_M_share : Cond.instanceMethod y_M_share ∈ g_all ∧ Cond.selects y_M_share.cls y_M_share y_M_share ∈ g_all := ⟨g_mem 1597 (by decide +kernel) rfl, g_mem 1598 (by decide +kernel) rfl⟩
theorem e_M_shareOf : g_me y_M_shareOf m_M_shareOf 2 := ⟨by decide +kernel, by decide +kernel, by decide +kernel, g_mem 1603 (by decide +kernel) (by decide +kernel), g_mem 84 (by decide +kernel) rfl, by decide, fun _ _ h => h⟩
theorem iv_M_shareOf : Cond.instanceMethod y_M_shareOf ∈ g_all ∧ Cond.selects y_M_shareOf.cls y_M_shareOf y_M_shareOf ∈ g_all := ⟨g_mem 1602 (by decide +kernel) rfl, g_mem 61 (by decide +kernel) rfl⟩
theorem e_M_keptOf : g_me y_M_keptOf m_M_keptOf 1 := ⟨by decide +kernel, by decide +kernel, by decide +kernel, g_mem 1607 (by decide +kernel) (by decide +kernel), g_mem 84 (by decide +kernel) rfl, by decide, fun _ _ h => h⟩
theorem iv_M_keptOf : Cond.instanceMethod y_M_keptOf ∈ g_all ∧ Cond.selects y_M_keptOf.cls y_M_keptOf y_M_keptOf ∈ g_all := ⟨g_mem 1606 (by decide +kernel) rfl, g_mem 62 (by decide +kernel) rfl⟩
theorem e_M_ridesOf : g_me y_M_ridesOf m_M_ridesOf 2 := ⟨by decide +kernel, by decide +kernel, by decide +kernel, g_mem 1611 (by decide +kernel) (by decide +kernel), g_mem 84 (by decide +kernel) rfl, by decide, fun _ _ h => h⟩
theorem iv_M_ridesOf : Cond.instanceMethod y_M_ridesOf ∈ g_all ∧ Cond.selects y_M_ridesOf.cls y_M_ridesOf y_M_ridesOf ∈ g_all := ⟨g_mem 1610 (by decide +kernel) rfl, g_mem 63 (by decide +kernel) rfl⟩
theorem e_M_partner : g_me y_M_partner m_M_partner 2 := ⟨by decide +kernel, by decide +kernel, by decide +kernel, g_mem 1615 (by decide +kernel) (by decide +kernel), g_mem 84 (by decide +kernel) rfl, by decide, fun _ _ h => h⟩
theorem iv_M_partner : Cond.instanceMethod y_M_partner ∈ g_all ∧ Cond.selects y_M_partner.cls y_M_partner y_M_partner ∈ g_all := ⟨g_mem 1613 (by decide +kernel) rfl, g_mem 1614 (by decide +kernel) rfl⟩
theorem e_M_sharesOf : g_me y_M_sharesOf m_M_sharesOf 1 := ⟨by decide +kernel, by decide +kernel, by decide +kernel, g_mem 1619 (by decide +kernel) (by decide +kernel), g_mem 84 (by decide +kernel) rfl, by decide, fun _ _ h => h⟩
theorem iv_M_sharesOf : Cond.instanceMethod y_M_sharesOf ∈ g_all ∧ Cond.selects y_M_sharesOf.cls y_M_sharesOf y_M_sharesOf ∈ g_all := ⟨g_mem 1618 (by decide +kernel) rfl, g_mem 64 (by decide +kernel) rfl⟩
theorem e_M_ridesOfPartner : g_me y_M_ridesOfPartner m_M_ridesOfPartner 1 := ⟨by decide +kernel, by decide +kernel, by decide +kernel, g_mem 1623 (by decide +kernel) (by decide +kernel), g_mem 84 (by decide +kernel) rfl, by decide, fun _ _ h => h⟩
theorem iv_M_ridesOfPartner : Cond.instanceMethod y_M_ridesOfPartner ∈ g_all ∧ Cond.selects y_M_ridesOfPartner.cls y_M_ridesOfPartner y_M_ridesOfPartner ∈ g_all := ⟨g_mem 1622 (by decide +kernel) rfl, g_mem 65 (by decide +kernel) rfl⟩
theorem e_M_gatesOfPartner : g_me y_M_gatesOfPartner m_M_gatesOfPartner 1 := ⟨by decide +kernel, by decide +kernel, by decide +kernel, g_mem 1627 (by decide +kernel) (by decide +kernel), g_mem 84 (by decide +kernel) rfl, by decide, fun _ _ h => h⟩
theorem iv_M_gatesOfPartner : Cond.instanceMethod y_M_gatesOfPartner ∈ g_all ∧ Cond.selects y_M_gatesOfPartner.cls y_M_gatesOfPartner y_M_gatesOfPartner ∈ g_all := ⟨g_mem 1626 (by decide +kernel) rfl, g_mem 66 (by decide +kernel) rfl⟩
theorem e_M_cardsOfPartner : g_me y_M_cardsOfPartner m_M_cardsOfPartner 1 := ⟨by decide +kernel, by decide +kernel, by decide +kernel, g_mem 1631 (by decide +kernel) (by decide +kernel), g_mem 84 (by decide +kernel) rfl, by decide, fun _ _ h => h⟩
theorem iv_M_cardsOfPartner : Cond.instanceMethod y_M_cardsOfPartner ∈ g_all ∧ Cond.selects y_M_cardsOfPartner.cls y_M_cardsOfPartner y_M_cardsOfPartner ∈ g_all := ⟨g_mem 1630 (by decide +kernel) rfl, g_mem 67 (by decide +kernel) rfl⟩
theorem e_M_account : g_me y_M_account m_M_account 1 := ⟨by decide +kernel, by decide +kernel, by decide +kernel, g_mem 1635 (by decide +kernel) (by decide +kernel), g_mem 84 (by decide +kernel) rfl, by decide, fun _ _ h => h⟩
theorem iv_M_account : Cond.instanceMethod y_M_account ∈ g_all ∧ Cond.selects y_M_account.cls y_M_account y_M_account ∈ g_all := ⟨g_mem 1633 (by decide +kernel) rfl, g_mem 1634 (by decide +kernel) rfl⟩
theorem e_M_sharesInAll : g_me y_M_sharesInAll m_M_sharesInAll 0 := ⟨by decide +kernel, by decide +kernel, by decide +kernel, g_mem 1639 (by decide +kernel) (by decide +kernel), g_mem 84 (by decide +kernel) rfl, by decide, fun _ _ h => h⟩
theorem iv_M_sharesInAll : Cond.instanceMethod y_M_sharesInAll ∈ g_all ∧ Cond.selects y_M_sharesInAll.cls y_M_sharesInAll y_M_sharesInAll ∈ g_all := ⟨g_mem 1638 (by decide +kernel) rfl, g_mem 68 (by decide +kernel) rfl⟩
theorem e_M_sumOf : g_me y_M_sumOf m_M_sumOf 1 := ⟨by decide +kernel, by decide +kernel, by decide +kernel, g_mem 1643 (by decide +kernel) (by decide +kernel), g_mem 84 (by decide +kernel) rfl, by decide, fun _ _ h => h⟩
theorem iv_M_sumOf : Cond.instanceMethod y_M_sumOf ∈ g_all ∧ Cond.selects y_M_sumOf.cls y_M_sumOf y_M_sumOf ∈ g_all := ⟨g_mem 1642 (by decide +kernel) rfl, g_mem 69 (by decide +kernel) rfl⟩
theorem e_M_meanRides : g_me y_M_meanRides m_M_meanRides 0 := ⟨by decide +kernel, by decide +kernel, by decide +kernel, g_mem 1647 (by decide +kernel) (by decide +kernel), g_mem 84 (by decide +kernel) rfl, by decide, fun _ _ h => h⟩
theorem iv_M_meanRides : Cond.instanceMethod y_M_meanRides ∈ g_all ∧ Cond.selects y_M_meanRides.cls y_M_meanRides y_M_meanRides ∈ g_all := ⟨g_mem 1645 (by decide +kernel) rfl, g_mem 1646 (by decide +kernel) rfl⟩
theorem e_M_closedShare : g_me y_M_closedShare m_M_closedShare 1 := ⟨by decide +kernel, by decide +kernel, by decide +kernel, g_mem 1651 (by decide +kernel) (by decide +kernel), g_mem 84 (by decide +kernel) rfl, by decide, fun _ _ h => h⟩
theorem iv_M_closedShare : Cond.instanceMethod y_M_closedShare ∈ g_all ∧ Cond.selects y_M_closedShare.cls y_M_closedShare y_M_closedShare ∈ g_all := ⟨g_mem 1649 (by decide +kernel) rfl, g_mem 1650 (by decide +kernel) rfl⟩
theorem e_M_isConsistent : g_me y_M_isConsistent m_M_isConsistent 0 := ⟨by decide +kernel, by decide +kernel, by decide +kernel, g_mem 1655 (by decide +kernel) (by decide +kernel), g_mem 84 (by decide +kernel) rfl, by decide, fun _ _ h => h⟩
theorem iv_M_isConsistent : Cond.instanceMethod y_M_isConsistent ∈ g_all ∧ Cond.selects y_M_isConsistent.cls y_M_isConsistent y_M_isConsistent ∈ g_all := ⟨g_mem 1653 (by decide +kernel) rfl, g_mem 1654 (by decide +kernel) rfl⟩
theorem e_M_append : g_me y_M_append m_M_append 1 := ⟨by decide +kernel, by decide +kernel, by decide +kernel, g_mem 1659 (by decide +kernel) (by decide +kernel), g_mem 84 (by decide +kernel) rfl, by decide, fun _ _ h => h⟩
theorem iv_M_append : Cond.instanceMethod y_M_append ∈ g_all ∧ Cond.selects y_M_append.cls y_M_append y_M_append ∈ g_all := ⟨g_mem 1657 (by decide +kernel) rfl, g_mem 1658 (by decide +kernel) rfl⟩
theorem e_M_read : g_me y_M_read m_M_read 0 := ⟨by decide +kernel, by decide +kernel, by decide +kernel, g_mem 1663 (by decide +kernel) (by decide +kernel), g_mem 84 (by decide +kernel) rfl, by decide, fun _ _ h => h⟩
theorem iv_M_read : Cond.instanceMethod y_M_read ∈ g_all ∧ Cond.selects y_M_read.cls y_M_read y_M_read ∈ g_all := ⟨g_mem 1661 (by decide +kernel) rfl, g_mem 1662 (by decide +kernel) rfl⟩
theorem e_M_orders : g_me y_M_orders m_M_orders 1 := ⟨by decide +kernel, by decide +kernel, by decide +kernel, g_mem 1667 (by decide +kernel) (by decide +kernel), g_mem 84 (by decide +kernel) rfl, by decide, fun _ _ h => h⟩
theorem iv_M_orders : Cond.instanceMethod y_M_orders ∈ g_all ∧ Cond.selects y_M_orders.cls y_M_orders y_M_orders ∈ g_all := ⟨g_mem 1666 (by decide +kernel) rfl, g_mem 70 (by decide +kernel) rfl⟩
theorem e_M_readsOrder : g_me y_M_readsOrder m_M_readsOrder 0 := ⟨by decide +kernel, by decide +kernel, by decide +kernel, g_mem 1671 (by decide +kernel) (by decide +kernel), g_mem 84 (by decide +kernel) rfl, by decide, fun _ _ h => h⟩
theorem iv_M_readsOrder : Cond.instanceMethod y_M_readsOrder ∈ g_all ∧ Cond.selects y_M_readsOrder.cls y_M_readsOrder y_M_readsOrder ∈ g_all := ⟨g_mem 1670 (by decide +kernel) rfl, g_mem 71 (by decide +kernel) rfl⟩
theorem e_M_isLetter : g_me y_M_isLetter m_M_isLetter 0 := ⟨by decide +kernel, by decide +kernel, by decide +kernel, g_mem 1675 (by decide +kernel) (by decide +kernel), g_mem 84 (by decide +kernel) rfl, by decide, fun _ _ h => h⟩
theorem iv_M_isLetter : Cond.instanceMethod y_M_isLetter ∈ g_all ∧ Cond.selects y_M_isLetter.cls y_M_isLetter y_M_isLetter ∈ g_all := ⟨g_mem 1674 (by decide +kernel) rfl, g_mem 72 (by decide +kernel) rfl⟩
theorem e_M_isAt : g_me y_M_isAt m_M_isAt 2 := ⟨by decide +kernel, by decide +kernel, by decide +kernel, g_mem 1679 (by decide +kernel) (by decide +kernel), g_mem 84 (by decide +kernel) rfl, by decide, fun _ _ h => h⟩
theorem iv_M_isAt : Cond.instanceMethod y_M_isAt ∈ g_all ∧ Cond.selects y_M_isAt.cls y_M_isAt y_M_isAt ∈ g_all := ⟨g_mem 1678 (by decide +kernel) rfl, g_mem 73 (by decide +kernel) rfl⟩
theorem e_M_readsNumber : g_me y_M_readsNumber m_M_readsNumber 0 := ⟨by decide +kernel, by decide +kernel, by decide +kernel, g_mem 1683 (by decide +kernel) (by decide +kernel), g_mem 84 (by decide +kernel) rfl, by decide, fun _ _ h => h⟩
theorem iv_M_readsNumber : Cond.instanceMethod y_M_readsNumber ∈ g_all ∧ Cond.selects y_M_readsNumber.cls y_M_readsNumber y_M_readsNumber ∈ g_all := ⟨g_mem 1682 (by decide +kernel) rfl, g_mem 74 (by decide +kernel) rfl⟩
theorem e_M_digit : g_me y_M_digit m_M_digit 0 := ⟨by decide +kernel, by decide +kernel, by decide +kernel, g_mem 1687 (by decide +kernel) (by decide +kernel), g_mem 84 (by decide +kernel) rfl, by decide, fun _ _ h => h⟩
theorem iv_M_digit : Cond.instanceMethod y_M_digit ∈ g_all ∧ Cond.selects y_M_digit.cls y_M_digit y_M_digit ∈ g_all := ⟨g_mem 1686 (by decide +kernel) rfl, g_mem 75 (by decide +kernel) rfl⟩
theorem e_M_carriesOut : g_me y_M_carriesOut m_M_carriesOut 0 := ⟨by decide +kernel, by decide +kernel, by decide +kernel, g_mem 1691 (by decide +kernel) (by decide +kernel), g_mem 84 (by decide +kernel) rfl, by decide, fun _ _ h => h⟩
theorem iv_M_carriesOut : Cond.instanceMethod y_M_carriesOut ∈ g_all ∧ Cond.selects y_M_carriesOut.cls y_M_carriesOut y_M_carriesOut ∈ g_all := ⟨g_mem 1690 (by decide +kernel) rfl, g_mem 76 (by decide +kernel) rfl⟩
theorem e_M_sells : g_me y_M_sells m_M_sells 0 := ⟨by decide +kernel, by decide +kernel, by decide +kernel, g_mem 1695 (by decide +kernel) (by decide +kernel), g_mem 84 (by decide +kernel) rfl, by decide, fun _ _ h => h⟩
theorem iv_M_sells : Cond.instanceMethod y_M_sells ∈ g_all ∧ Cond.selects y_M_sells.cls y_M_sells y_M_sells ∈ g_all := ⟨g_mem 1694 (by decide +kernel) rfl, g_mem 77 (by decide +kernel) rfl⟩
theorem e_M_errorPosition : g_me y_M_errorPosition m_M_errorPosition 0 := ⟨by decide +kernel, by decide +kernel, by decide +kernel, g_mem 1699 (by decide +kernel) (by decide +kernel), g_mem 84 (by decide +kernel) rfl, by decide, fun _ _ h => h⟩
theorem iv_M_errorPosition : Cond.instanceMethod y_M_errorPosition ∈ g_all ∧ Cond.selects y_M_errorPosition.cls y_M_errorPosition y_M_errorPosition ∈ g_all := ⟨g_mem 1697 (by decide +kernel) rfl, g_mem 1698 (by decide +kernel) rfl⟩
theorem e_M_refusedOrder : g_me y_M_refusedOrder m_M_refusedOrder 0 := ⟨by decide +kernel, by decide +kernel, by decide +kernel, g_mem 1703 (by decide +kernel) (by decide +kernel), g_mem 84 (by decide +kernel) rfl, by decide, fun _ _ h => h⟩
theorem iv_M_refusedOrder : Cond.instanceMethod y_M_refusedOrder ∈ g_all ∧ Cond.selects y_M_refusedOrder.cls y_M_refusedOrder y_M_refusedOrder ∈ g_all := ⟨g_mem 1701 (by decide +kernel) rfl, g_mem 1702 (by decide +kernel) rfl⟩
theorem e_M_undo : g_me y_M_undo m_M_undo 0 := ⟨by decide +kernel, by decide +kernel, by decide +kernel, g_mem 1707 (by decide +kernel) (by decide +kernel), g_mem 84 (by decide +kernel) rfl, by decide, fun _ _ h => h⟩
theorem iv_M_undo : Cond.instanceMethod y_M_undo ∈ g_all ∧ Cond.selects y_M_undo.cls y_M_undo y_M_undo ∈ g_all := ⟨g_mem 1705 (by decide +kernel) rfl, g_mem 1706 (by decide +kernel) rfl⟩
theorem e_M_snapshot : g_me y_M_snapshot m_M_snapshot 0 := ⟨by decide +kernel, by decide +kernel, by decide +kernel, g_mem 1711 (by decide +kernel) (by decide +kernel), g_mem 84 (by decide +kernel) rfl, by decide, fun _ _ h => h⟩
theorem iv_M_snapshot : Cond.instanceMethod y_M_snapshot ∈ g_all ∧ Cond.selects y_M_snapshot.cls y_M_snapshot y_M_snapshot ∈ g_all := ⟨g_mem 1709 (by decide +kernel) rfl, g_mem 1710 (by decide +kernel) rfl⟩
theorem e_M_restore : g_me y_M_restore m_M_restore 0 := ⟨by decide +kernel, by decide +kernel, by decide +kernel, g_mem 1715 (by decide +kernel) (by decide +kernel), g_mem 84 (by decide +kernel) rfl, by decide, fun _ _ h => h⟩
theorem iv_M_restore : Cond.instanceMethod y_M_restore ∈ g_all ∧ Cond.selects y_M_restore.cls y_M_restore y_M_restore ∈ g_all := ⟨g_mem 1713 (by decide +kernel) rfl, g_mem 1714 (by decide +kernel) rfl⟩
theorem e_L_addGate : g_me y_L_addGate m_L_addGate 4 := ⟨by decide +kernel, by decide +kernel, by decide +kernel, g_mem 362 (by decide +kernel) (by decide +kernel), g_mem 78 (by decide +kernel) rfl, by decide, fun _ _ h => h⟩
theorem st_L_addGate : Cond.static y_L_addGate ∈ g_all := g_mem 361 (by decide +kernel) rfl
theorem e_L_addProduct : g_me y_L_addProduct m_L_addProduct 8 := ⟨by decide +kernel, by decide +kernel, by decide +kernel, g_mem 510 (by decide +kernel) (by decide +kernel), g_mem 78 (by decide +kernel) rfl, by decide, fun _ _ h => h⟩
theorem st_L_addProduct : Cond.static y_L_addProduct ∈ g_all := g_mem 509 (by decide +kernel) rfl
theorem e_L_gate : g_me y_L_gate m_L_gate 4 := ⟨by decide +kernel, by decide +kernel, by decide +kernel, g_mem 562 (by decide +kernel) (by decide +kernel), g_mem 78 (by decide +kernel) rfl, by decide, fun _ _ h => h⟩
theorem st_L_gate : Cond.static y_L_gate ∈ g_all := g_mem 561 (by decide +kernel) rfl
theorem e_L_product : g_me y_L_product m_L_product 4 := ⟨by decide +kernel, by decide +kernel, by decide +kernel, g_mem 633 (by decide +kernel) (by decide +kernel), g_mem 78 (by decide +kernel) rfl, by decide, fun _ _ h => h⟩
theorem st_L_product : Cond.static y_L_product ∈ g_all := g_mem 632 (by decide +kernel) rfl
theorem e_L_way : g_me y_L_way m_L_way 4 := ⟨by decide +kernel, by decide +kernel, by decide +kernel, g_mem 662 (by decide +kernel) (by decide +kernel), g_mem 78 (by decide +kernel) rfl, by decide, fun _ _ h => h⟩
theorem st_L_way : Cond.static y_L_way ∈ g_all := g_mem 661 (by decide +kernel) rfl
theorem e_L_advance : g_me y_L_advance m_L_advance 3 := ⟨by decide +kernel, by decide +kernel, by decide +kernel, g_mem 670 (by decide +kernel) (by decide +kernel), g_mem 78 (by decide +kernel) rfl, by decide, fun _ _ h => h⟩
theorem st_L_advance : Cond.static y_L_advance ∈ g_all := g_mem 669 (by decide +kernel) rfl
theorem e_L_system : g_me y_L_system m_L_system 3 := ⟨by decide +kernel, by decide +kernel, by decide +kernel, g_mem 695 (by decide +kernel) (by decide +kernel), g_mem 78 (by decide +kernel) rfl, by decide, fun _ _ h => h⟩
theorem st_L_system : Cond.static y_L_system ∈ g_all := g_mem 694 (by decide +kernel) rfl
theorem e_L_setClosed : g_me y_L_setClosed m_L_setClosed 4 := ⟨by decide +kernel, by decide +kernel, by decide +kernel, g_mem 707 (by decide +kernel) (by decide +kernel), g_mem 78 (by decide +kernel) rfl, by decide, fun _ _ h => h⟩
theorem st_L_setClosed : Cond.static y_L_setClosed ∈ g_all := g_mem 706 (by decide +kernel) rfl
theorem e_L_closedMinutes : g_me y_L_closedMinutes m_L_closedMinutes 4 := ⟨by decide +kernel, by decide +kernel, by decide +kernel, g_mem 718 (by decide +kernel) (by decide +kernel), g_mem 78 (by decide +kernel) rfl, by decide, fun _ _ h => h⟩
theorem st_L_closedMinutes : Cond.static y_L_closedMinutes ∈ g_all := g_mem 717 (by decide +kernel) rfl
theorem e_L_isClosedDay : g_me y_L_isClosedDay m_L_isClosedDay 4 := ⟨by decide +kernel, by decide +kernel, by decide +kernel, g_mem 729 (by decide +kernel) (by decide +kernel), g_mem 78 (by decide +kernel) rfl, by decide, fun _ _ h => h⟩
theorem st_L_isClosedDay : Cond.static y_L_isClosedDay ∈ g_all := g_mem 728 (by decide +kernel) rfl
theorem e_L_sell : g_me y_L_sell m_L_sell 3 := ⟨by decide +kernel, by decide +kernel, by decide +kernel, g_mem 740 (by decide +kernel) (by decide +kernel), g_mem 78 (by decide +kernel) rfl, by decide, fun _ _ h => h⟩
theorem st_L_sell : Cond.static y_L_sell ∈ g_all := g_mem 739 (by decide +kernel) rfl
theorem e_L_pass : g_me y_L_pass m_L_pass 4 := ⟨by decide +kernel, by decide +kernel, by decide +kernel, g_mem 799 (by decide +kernel) (by decide +kernel), g_mem 78 (by decide +kernel) rfl, by decide, fun _ _ h => h⟩
theorem st_L_pass : Cond.static y_L_pass ∈ g_all := g_mem 798 (by decide +kernel) rfl
theorem e_L_reason : g_me y_L_reason m_L_reason 4 := ⟨by decide +kernel, by decide +kernel, by decide +kernel, g_mem 913 (by decide +kernel) (by decide +kernel), g_mem 78 (by decide +kernel) rfl, by decide, fun _ _ h => h⟩
theorem st_L_reason : Cond.static y_L_reason ∈ g_all := g_mem 912 (by decide +kernel) rfl
theorem e_L_openGates : g_me y_L_openGates m_L_openGates 3 := ⟨by decide +kernel, by decide +kernel, by decide +kernel, g_mem 920 (by decide +kernel) (by decide +kernel), g_mem 78 (by decide +kernel) rfl, by decide, fun _ _ h => h⟩
theorem st_L_openGates : Cond.static y_L_openGates ∈ g_all := g_mem 919 (by decide +kernel) rfl
theorem e_L_refusal : g_me y_L_refusal m_L_refusal 3 := ⟨by decide +kernel, by decide +kernel, by decide +kernel, g_mem 932 (by decide +kernel) (by decide +kernel), g_mem 78 (by decide +kernel) rfl, by decide, fun _ _ h => h⟩
theorem st_L_refusal : Cond.static y_L_refusal ∈ g_all := g_mem 931 (by decide +kernel) rfl
theorem e_L_block : g_me y_L_block m_L_block 4 := ⟨by decide +kernel, by decide +kernel, by decide +kernel, g_mem 961 (by decide +kernel) (by decide +kernel), g_mem 78 (by decide +kernel) rfl, by decide, fun _ _ h => h⟩
theorem st_L_block : Cond.static y_L_block ∈ g_all := g_mem 960 (by decide +kernel) rfl
theorem e_L_replace : g_me y_L_replace m_L_replace 3 := ⟨by decide +kernel, by decide +kernel, by decide +kernel, g_mem 981 (by decide +kernel) (by decide +kernel), g_mem 78 (by decide +kernel) rfl, by decide, fun _ _ h => h⟩
theorem st_L_replace : Cond.static y_L_replace ∈ g_all := g_mem 980 (by decide +kernel) rfl
theorem e_L_card : g_me y_L_card m_L_card 4 := ⟨by decide +kernel, by decide +kernel, by decide +kernel, g_mem 997 (by decide +kernel) (by decide +kernel), g_mem 78 (by decide +kernel) rfl, by decide, fun _ _ h => h⟩
theorem st_L_card : Cond.static y_L_card ∈ g_all := g_mem 996 (by decide +kernel) rfl
theorem e_L_ride : g_me y_L_ride m_L_ride 5 := ⟨by decide +kernel, by decide +kernel, by decide +kernel, g_mem 1019 (by decide +kernel) (by decide +kernel), g_mem 78 (by decide +kernel) rfl, by decide, fun _ _ h => h⟩
theorem st_L_ride : Cond.static y_L_ride ∈ g_all := g_mem 1018 (by decide +kernel) rfl
theorem e_L_refundable : g_me y_L_refundable m_L_refundable 3 := ⟨by decide +kernel, by decide +kernel, by decide +kernel, g_mem 1031 (by decide +kernel) (by decide +kernel), g_mem 78 (by decide +kernel) rfl, by decide, fun _ _ h => h⟩
theorem st_L_refundable : Cond.static y_L_refundable ∈ g_all := g_mem 1030 (by decide +kernel) rfl
theorem e_L_refund : g_me y_L_refund m_L_refund 3 := ⟨by decide +kernel, by decide +kernel, by decide +kernel, g_mem 1053 (by decide +kernel) (by decide +kernel), g_mem 78 (by decide +kernel) rfl, by decide, fun _ _ h => h⟩
theorem st_L_refund : Cond.static y_L_refund ∈ g_all := g_mem 1052 (by decide +kernel) rfl
theorem e_L_share : g_me y_L_share m_L_share 4 := ⟨by decide +kernel, by decide +kernel, by decide +kernel, g_mem 1069 (by decide +kernel) (by decide +kernel), g_mem 78 (by decide +kernel) rfl, by decide, fun _ _ h => h⟩
theorem st_L_share : Cond.static y_L_share ∈ g_all := g_mem 1068 (by decide +kernel) rfl
theorem e_L_partner : g_me y_L_partner m_L_partner 4 := ⟨by decide +kernel, by decide +kernel, by decide +kernel, g_mem 1080 (by decide +kernel) (by decide +kernel), g_mem 78 (by decide +kernel) rfl, by decide, fun _ _ h => h⟩
theorem st_L_partner : Cond.static y_L_partner ∈ g_all := g_mem 1079 (by decide +kernel) rfl
theorem e_L_account : g_me y_L_account m_L_account 3 := ⟨by decide +kernel, by decide +kernel, by decide +kernel, g_mem 1101 (by decide +kernel) (by decide +kernel), g_mem 78 (by decide +kernel) rfl, by decide, fun _ _ h => h⟩
theorem st_L_account : Cond.static y_L_account ∈ g_all := g_mem 1100 (by decide +kernel) rfl
theorem e_L_meanRides : g_me y_L_meanRides m_L_meanRides 2 := ⟨by decide +kernel, by decide +kernel, by decide +kernel, g_mem 1113 (by decide +kernel) (by decide +kernel), g_mem 78 (by decide +kernel) rfl, by decide, fun _ _ h => h⟩
theorem st_L_meanRides : Cond.static y_L_meanRides ∈ g_all := g_mem 1112 (by decide +kernel) rfl
theorem e_L_closedShare : g_me y_L_closedShare m_L_closedShare 3 := ⟨by decide +kernel, by decide +kernel, by decide +kernel, g_mem 1141 (by decide +kernel) (by decide +kernel), g_mem 78 (by decide +kernel) rfl, by decide, fun _ _ h => h⟩
theorem st_L_closedShare : Cond.static y_L_closedShare ∈ g_all := g_mem 1140 (by decide +kernel) rfl
theorem e_L_append : g_me y_L_append m_L_append 3 := ⟨by decide +kernel, by decide +kernel, by decide +kernel, g_mem 1153 (by decide +kernel) (by decide +kernel), g_mem 78 (by decide +kernel) rfl, by decide, fun _ _ h => h⟩
theorem st_L_append : Cond.static y_L_append ∈ g_all := g_mem 1152 (by decide +kernel) rfl
theorem e_L_read : g_me y_L_read m_L_read 2 := ⟨by decide +kernel, by decide +kernel, by decide +kernel, g_mem 1166 (by decide +kernel) (by decide +kernel), g_mem 78 (by decide +kernel) rfl, by decide, fun _ _ h => h⟩
theorem st_L_read : Cond.static y_L_read ∈ g_all := g_mem 1165 (by decide +kernel) rfl
theorem e_L_errorPosition : g_me y_L_errorPosition m_L_errorPosition 2 := ⟨by decide +kernel, by decide +kernel, by decide +kernel, g_mem 1248 (by decide +kernel) (by decide +kernel), g_mem 78 (by decide +kernel) rfl, by decide, fun _ _ h => h⟩
theorem st_L_errorPosition : Cond.static y_L_errorPosition ∈ g_all := g_mem 1247 (by decide +kernel) rfl
theorem e_L_refusedOrder : g_me y_L_refusedOrder m_L_refusedOrder 2 := ⟨by decide +kernel, by decide +kernel, by decide +kernel, g_mem 1256 (by decide +kernel) (by decide +kernel), g_mem 78 (by decide +kernel) rfl, by decide, fun _ _ h => h⟩
theorem st_L_refusedOrder : Cond.static y_L_refusedOrder ∈ g_all := g_mem 1255 (by decide +kernel) rfl
theorem e_L_undo : g_me y_L_undo m_L_undo 2 := ⟨by decide +kernel, by decide +kernel, by decide +kernel, g_mem 1264 (by decide +kernel) (by decide +kernel), g_mem 78 (by decide +kernel) rfl, by decide, fun _ _ h => h⟩
theorem st_L_undo : Cond.static y_L_undo ∈ g_all := g_mem 1263 (by decide +kernel) rfl
theorem e_L_restore : g_me y_L_restore m_L_restore 2 := ⟨by decide +kernel, by decide +kernel, by decide +kernel, g_mem 1278 (by decide +kernel) (by decide +kernel), g_mem 78 (by decide +kernel) rfl, by decide, fun _ _ h => h⟩
theorem st_L_restore : Cond.static y_L_restore ∈ g_all := g_mem 1277 (by decide +kernel) rfl
theorem e_J_numberOfTrailingZeros : g_me y_J_numberOfTrailingZeros m_J_numberOfTrailingZeros 1 := ⟨by decide +kernel, by decide +kernel, by decide +kernel, g_mem 835 (by decide +kernel) (by decide +kernel), g_mem 99 (by decide +kernel) rfl, by decide, fun _ _ h => h⟩
theorem st_J_numberOfTrailingZeros : Cond.static y_J_numberOfTrailingZeros ∈ g_all := g_mem 834 (by decide +kernel) rfl
theorem e_J_bitCount : g_me y_J_bitCount m_J_bitCount 1 := ⟨by decide +kernel, by decide +kernel, by decide +kernel, g_mem 843 (by decide +kernel) (by decide +kernel), g_mem 99 (by decide +kernel) rfl, by decide, fun _ _ h => h⟩
theorem st_J_bitCount : Cond.static y_J_bitCount ∈ g_all := g_mem 842 (by decide +kernel) rfl
theorem e_A_fill : g_me y_A_fill m_A_fill 2 := ⟨by decide +kernel, by decide +kernel, by decide +kernel, g_mem 261 (by decide +kernel) (by decide +kernel), g_mem 85 (by decide +kernel) rfl, by decide, fun _ _ h => h⟩
theorem st_A_fill : Cond.static y_A_fill ∈ g_all := g_mem 260 (by decide +kernel) rfl
theorem l_X_3 : Cond.methodLink "SkiPasses" 3 Lib.objectInit ∈ g_all := g_mem 109 (by decide +kernel) rfl
theorem c_X_9 : Cond.classLink "SkiPasses" 9 "SkiPasses$Resort" ∈ g_all := g_mem 112 (by decide +kernel) rfl
theorem l_X_11 : Cond.methodLinkNest "SkiPasses" 11 y_R_init "SkiPasses" ∈ g_bads := g_bmem 114 (by decide +kernel) rfl
theorem f_X_12 : g_fld "SkiPasses" 12 0 0 := ⟨by decide, by decide, Or.inl (g_mem 223 (by decide +kernel) rfl)⟩
theorem f_X_16 : g_fld "SkiPasses" 16 0 1 := ⟨by decide, by decide, Or.inl (g_mem 224 (by decide +kernel) rfl)⟩
theorem c_X_19 : Cond.classLink "SkiPasses" 19 "SkiPasses$History" ∈ g_all := g_mem 159 (by decide +kernel) rfl
theorem l_X_21 : Cond.methodLink "SkiPasses" 21 y_H_init ∈ g_all := g_mem 161 (by decide +kernel) rfl
theorem f_X_22 : g_fld "SkiPasses" 22 0 2 := ⟨by decide, by decide, Or.inl (g_mem 225 (by decide +kernel) rfl)⟩
theorem c_X_26 : Cond.classLink "SkiPasses" 26 "SkiPasses$Text" ∈ g_all := g_mem 179 (by decide +kernel) rfl
theorem l_X_28 : Cond.methodLinkNest "SkiPasses" 28 y_T_init "SkiPasses" ∈ g_bads := g_bmem 181 (by decide +kernel) rfl
theorem f_X_29 : g_fld "SkiPasses" 29 0 3 := ⟨by decide, by decide, Or.inl (g_mem 226 (by decide +kernel) rfl)⟩
theorem c_X_33 : Cond.classLink "SkiPasses" 33 "SkiPasses$Shares" ∈ g_all := g_mem 213 (by decide +kernel) rfl
theorem l_X_35 : Cond.methodLinkNest "SkiPasses" 35 y_S_init "SkiPasses" ∈ g_bads := g_bmem 215 (by decide +kernel) rfl
theorem f_X_36 : g_fld "SkiPasses" 36 0 4 := ⟨by decide, by decide, Or.inl (g_mem 227 (by decide +kernel) rfl)⟩
theorem f_X_40 : g_fld "SkiPasses" 40 0 5 := ⟨by decide, by decide, Or.inl (g_mem 228 (by decide +kernel) rfl)⟩
theorem f_X_44 : g_fld "SkiPasses" 44 0 6 := ⟨by decide, by decide, Or.inl (g_mem 229 (by decide +kernel) rfl)⟩
theorem f_X_48 : g_fld "SkiPasses" 48 0 7 := ⟨by decide, by decide, Or.inl (g_mem 230 (by decide +kernel) rfl)⟩
theorem f_X_51 : g_fld "SkiPasses" 51 0 8 := ⟨by decide, by decide, Or.inl (g_mem 231 (by decide +kernel) rfl)⟩
theorem f_X_54 : g_fld "SkiPasses" 54 1 6 := ⟨by decide, by decide, Or.inr ⟨"SkiPasses", g_bmem 134 (by decide +kernel) rfl⟩⟩
theorem l_X_57 : Cond.methodLink "SkiPasses" 57 y_R_empty ∈ g_all := g_mem 255 (by decide +kernel) rfl
theorem l_X_60 : Cond.methodLink "SkiPasses" 60 y_H_forget ∈ g_all := g_mem 262 (by decide +kernel) rfl
theorem l_X_361 : Cond.methodLink "SkiPasses" 361 y_R_allPrices ∈ g_all := g_mem 270 (by decide +kernel) rfl
theorem l_X_364 : Cond.methodLink "SkiPasses" 364 y_R_allRefunds ∈ g_all := g_mem 278 (by decide +kernel) rfl
theorem l_X_367 : Cond.methodLink "SkiPasses" 367 y_X_allShares ∈ g_all := g_mem 282 (by decide +kernel) rfl
theorem l_X_370 : Cond.methodLink "SkiPasses" 370 y_R_allIdle ∈ g_all := g_mem 310 (by decide +kernel) rfl
theorem l_X_391 : Cond.methodLink "SkiPasses" 391 y_R_ridesThroughAllGates ∈ g_all := g_mem 315 (by decide +kernel) rfl
theorem l_X_193 : Cond.methodLink "SkiPasses" 193 y_R_ridesOnAllCards ∈ g_all := g_mem 327 (by decide +kernel) rfl
theorem l_X_394 : Cond.methodLink "SkiPasses" 394 y_R_keepsAllWays ∈ g_all := g_mem 331 (by decide +kernel) rfl
theorem l_X_347 : Cond.methodLink "SkiPasses" 347 y_X_sharesOf ∈ g_all := g_mem 286 (by decide +kernel) rfl
theorem f_X_466 : g_fld "SkiPasses" 466 1 2 := ⟨by decide, by decide, Or.inr ⟨"SkiPasses", g_bmem 127 (by decide +kernel) rfl⟩⟩
theorem l_X_340 : Cond.methodLink "SkiPasses" 340 y_S_divide ∈ g_all := g_mem 290 (by decide +kernel) rfl
theorem l_X_344 : Cond.methodLink "SkiPasses" 344 y_S_partOf ∈ g_all := g_mem 306 (by decide +kernel) rfl
theorem l_X_436 : Cond.methodLink "SkiPasses" 436 y_R_copyFrom ∈ g_all := g_mem 350 (by decide +kernel) rfl
theorem l_X_63 : Cond.methodLink "SkiPasses" 63 y_X_isPartner ∈ g_all := g_mem 369 (by decide +kernel) rfl
theorem l_X_67 : Cond.methodLink "SkiPasses" 67 y_X_isBetween ∈ g_all := g_mem 372 (by decide +kernel) rfl
theorem c_X_71 : Cond.classLink "SkiPasses" 71 "java/lang/IllegalArgumentException" ∈ g_all := g_mem 375 (by decide +kernel) rfl
theorem l_X_75 : Cond.methodLink "SkiPasses" 75 ⟨"java/lang/IllegalArgumentException", "<init>", "(Ljava/lang/String;)V"⟩ ∈ g_all := g_mem 421 (by decide +kernel) rfl
theorem f_X_78 : g_fld "SkiPasses" 78 1 4 := ⟨by decide, by decide, Or.inr ⟨"SkiPasses", g_bmem 130 (by decide +kernel) rfl⟩⟩
theorem c_X_81 : Cond.classLink "SkiPasses" 81 "java/lang/IllegalStateException" ∈ g_all := g_mem 447 (by decide +kernel) rfl
theorem l_X_85 : Cond.methodLink "SkiPasses" 85 ⟨"java/lang/IllegalStateException", "<init>", "(Ljava/lang/String;)V"⟩ ∈ g_all := g_mem 457 (by decide +kernel) rfl
theorem l_X_86 : Cond.methodLink "SkiPasses" 86 y_H_record ∈ g_all := g_mem 463 (by decide +kernel) rfl
theorem c_X_90 : Cond.classLink "SkiPasses" 90 "SkiPasses$Gate" ∈ g_all := g_mem 481 (by decide +kernel) rfl
theorem l_X_92 : Cond.methodLink "SkiPasses" 92 y_G_init ∈ g_all := g_mem 483 (by decide +kernel) rfl
theorem l_X_95 : Cond.methodLink "SkiPasses" 95 y_R_insertGate ∈ g_all := g_mem 504 (by decide +kernel) rfl
theorem f_X_101 : g_fld "SkiPasses" 101 1 5 := ⟨by decide, by decide, Or.inr ⟨"SkiPasses", g_bmem 132 (by decide +kernel) rfl⟩⟩
theorem c_X_106 : Cond.classLink "SkiPasses" 106 "SkiPasses$Product" ∈ g_all := g_mem 517 (by decide +kernel) rfl
theorem l_X_108 : Cond.methodLink "SkiPasses" 108 y_P_init ∈ g_all := g_mem 519 (by decide +kernel) rfl
theorem l_X_111 : Cond.methodLink "SkiPasses" 111 y_R_insertProduct ∈ g_all := g_mem 556 (by decide +kernel) rfl
theorem l_X_115 : Cond.methodLink "SkiPasses" 115 y_X_existingGate ∈ g_all := g_mem 591 (by decide +kernel) rfl
theorem f_X_119 : g_fld "SkiPasses" 119 5 1 := ⟨by decide, by decide, Or.inl (g_mem 492 (by decide +kernel) rfl)⟩
theorem f_X_122 : g_fld "SkiPasses" 122 5 2 := ⟨by decide, by decide, Or.inl (g_mem 496 (by decide +kernel) rfl)⟩
theorem l_X_125 : Cond.methodLink "SkiPasses" 125 y_R_isShut ∈ g_all := g_mem 612 (by decide +kernel) rfl
theorem l_X_129 : Cond.methodLink "SkiPasses" 129 y_R_ridesThrough ∈ g_all := g_mem 616 (by decide +kernel) rfl
theorem l_X_132 : Cond.methodLink "SkiPasses" 132 y_R_today ∈ g_all := g_mem 617 (by decide +kernel) rfl
theorem l_X_136 : Cond.methodLink "SkiPasses" 136 y_R_closedOn ∈ g_all := g_mem 621 (by decide +kernel) rfl
theorem l_X_140 : Cond.methodLink "SkiPasses" 140 y_R_closedOnAllDays ∈ g_all := g_mem 625 (by decide +kernel) rfl
theorem l_X_441 : Cond.methodLink "SkiPasses" 441 y_R_gateAt ∈ g_all := g_mem 595 (by decide +kernel) rfl
theorem c_X_444 : Cond.classLink "SkiPasses" 444 "java/lang/IndexOutOfBoundsException" ∈ g_all := g_mem 599 (by decide +kernel) rfl
theorem l_X_448 : Cond.methodLink "SkiPasses" 448 ⟨"java/lang/IndexOutOfBoundsException", "<init>", "(Ljava/lang/String;)V"⟩ ∈ g_all := g_mem 609 (by decide +kernel) rfl
theorem l_X_145 : Cond.methodLink "SkiPasses" 145 y_X_existingProduct ∈ g_all := g_mem 638 (by decide +kernel) rfl
theorem f_X_149 : g_fld "SkiPasses" 149 6 1 := ⟨by decide, by decide, Or.inl (g_mem 527 (by decide +kernel) rfl)⟩
theorem f_X_152 : g_fld "SkiPasses" 152 6 2 := ⟨by decide, by decide, Or.inl (g_mem 530 (by decide +kernel) rfl)⟩
theorem f_X_155 : g_fld "SkiPasses" 155 6 3 := ⟨by decide, by decide, Or.inl (g_mem 533 (by decide +kernel) rfl)⟩
theorem f_X_158 : g_fld "SkiPasses" 158 6 4 := ⟨by decide, by decide, Or.inl (g_mem 535 (by decide +kernel) rfl)⟩
theorem f_X_161 : g_fld "SkiPasses" 161 6 5 := ⟨by decide, by decide, Or.inl (g_mem 537 (by decide +kernel) rfl)⟩
theorem f_X_164 : g_fld "SkiPasses" 164 6 6 := ⟨by decide, by decide, Or.inl (g_mem 539 (by decide +kernel) rfl)⟩
theorem l_X_167 : Cond.methodLink "SkiPasses" 167 y_R_gatesFor ∈ g_all := g_mem 647 (by decide +kernel) rfl
theorem l_X_170 : Cond.methodLink "SkiPasses" 170 y_R_cardsWith ∈ g_all := g_mem 655 (by decide +kernel) rfl
theorem l_X_449 : Cond.methodLink "SkiPasses" 449 y_R_productAt ∈ g_all := g_mem 642 (by decide +kernel) rfl
theorem l_X_175 : Cond.methodLink "SkiPasses" 175 y_G_wayTo ∈ g_all := g_mem 667 (by decide +kernel) rfl
theorem f_X_180 : g_fld "SkiPasses" 180 1 8 := ⟨by decide, by decide, Or.inr ⟨"SkiPasses", g_bmem 138 (by decide +kernel) rfl⟩⟩
theorem k_X_183 : Cond.constant "SkiPasses" 183 43200 ∈ g_all := g_mem 676 (by decide +kernel) rfl
theorem l_X_186 : Cond.methodLink "SkiPasses" 186 y_R_goOn ∈ g_all := g_mem 678 (by decide +kernel) rfl
theorem l_X_190 : Cond.methodLink "SkiPasses" 190 y_R_hour ∈ g_all := g_mem 700 (by decide +kernel) rfl
theorem f_X_196 : g_fld "SkiPasses" 196 1 7 := ⟨by decide, by decide, Or.inr ⟨"SkiPasses", g_bmem 136 (by decide +kernel) rfl⟩⟩
theorem f_X_199 : g_fld "SkiPasses" 199 3 1 := ⟨by decide, by decide, Or.inr ⟨"SkiPasses", g_bmem 187 (by decide +kernel) rfl⟩⟩
theorem f_X_202 : g_fld "SkiPasses" 202 2 2 := ⟨by decide, by decide, Or.inr ⟨"SkiPasses", g_bmem 171 (by decide +kernel) rfl⟩⟩
theorem l_X_207 : Cond.methodLink "SkiPasses" 207 y_R_shut ∈ g_all := g_mem 712 (by decide +kernel) rfl
theorem l_X_211 : Cond.methodLink "SkiPasses" 211 y_X_isDay ∈ g_all := g_mem 723 (by decide +kernel) rfl
theorem l_X_216 : Cond.methodLink "SkiPasses" 216 y_R_isClosedFor ∈ g_all := g_mem 734 (by decide +kernel) rfl
theorem l_X_220 : Cond.methodLink "SkiPasses" 220 y_R_hasRoomForCards ∈ g_all := g_mem 745 (by decide +kernel) rfl
theorem l_X_225 : Cond.methodLink "SkiPasses" 225 y_R_insertCards ∈ g_all := g_mem 750 (by decide +kernel) rfl
theorem l_X_229 : Cond.methodLink "SkiPasses" 229 y_X_existingCard ∈ g_all := g_mem 805 (by decide +kernel) rfl
theorem l_X_233 : Cond.methodLink "SkiPasses" 233 y_R_reasonAgainst ∈ g_all := g_mem 814 (by decide +kernel) rfl
theorem c_X_237 : Cond.classLink "SkiPasses" 237 "java/lang/UnsupportedOperationException" ∈ g_all := g_mem 853 (by decide +kernel) rfl
theorem l_X_241 : Cond.methodLink "SkiPasses" 241 ⟨"java/lang/UnsupportedOperationException", "<init>", "(Ljava/lang/String;)V"⟩ ∈ g_all := g_mem 863 (by decide +kernel) rfl
theorem l_X_242 : Cond.methodLink "SkiPasses" 242 y_R_addRide ∈ g_all := g_mem 869 (by decide +kernel) rfl
theorem l_X_454 : Cond.methodLink "SkiPasses" 454 y_R_cardAt ∈ g_all := g_mem 809 (by decide +kernel) rfl
theorem l_X_245 : Cond.methodLink "SkiPasses" 245 y_R_gatesThatLetPass ∈ g_all := g_mem 925 (by decide +kernel) rfl
theorem l_X_251 : Cond.methodLink "SkiPasses" 251 y_X_numberInChain ∈ g_all := g_mem 939 (by decide +kernel) rfl
theorem c_X_255 : Cond.classLink "SkiPasses" 255 "java/util/NoSuchElementException" ∈ g_all := g_mem 943 (by decide +kernel) rfl
theorem l_X_259 : Cond.methodLink "SkiPasses" 259 ⟨"java/util/NoSuchElementException", "<init>", "(Ljava/lang/String;)V"⟩ ∈ g_all := g_mem 953 (by decide +kernel) rfl
theorem l_X_461 : Cond.methodLink "SkiPasses" 461 Lib.Math.min.name ∈ g_all := g_mem 942 (by decide +kernel) rfl
theorem l_X_260 : Cond.methodLink "SkiPasses" 260 y_C_isSettled ∈ g_all := g_mem 966 (by decide +kernel) rfl
theorem l_X_268 : Cond.methodLink "SkiPasses" 268 y_R_setBlocked ∈ g_all := g_mem 971 (by decide +kernel) rfl
theorem f_X_272 : g_fld "SkiPasses" 272 8 2 := ⟨by decide, by decide, Or.inl (g_mem 769 (by decide +kernel) rfl)⟩
theorem l_X_277 : Cond.methodLink "SkiPasses" 277 y_R_exchange ∈ g_all := g_mem 987 (by decide +kernel) rfl
theorem f_X_280 : g_fld "SkiPasses" 280 8 1 := ⟨by decide, by decide, Or.inl (g_mem 767 (by decide +kernel) rfl)⟩
theorem f_X_284 : g_fld "SkiPasses" 284 6 0 := ⟨by decide, by decide, Or.inl (g_mem 525 (by decide +kernel) rfl)⟩
theorem l_X_287 : Cond.methodLink "SkiPasses" 287 y_C_rideCount ∈ g_all := g_mem 1002 (by decide +kernel) rfl
theorem l_X_290 : Cond.methodLink "SkiPasses" 290 y_C_dayMask ∈ g_all := g_mem 1003 (by decide +kernel) rfl
theorem l_X_293 : Cond.methodLink "SkiPasses" 293 y_J_bitCount ∈ g_all := g_mem 1004 (by decide +kernel) rfl
theorem f_X_299 : g_fld "SkiPasses" 299 8 3 := ⟨by decide, by decide, Or.inl (g_mem 773 (by decide +kernel) rfl)⟩
theorem l_X_302 : Cond.methodLink "SkiPasses" 302 y_R_lastSuccessor ∈ g_all := g_mem 1005 (by decide +kernel) rfl
theorem l_X_305 : Cond.methodLink "SkiPasses" 305 y_C_price ∈ g_all := g_mem 1010 (by decide +kernel) rfl
theorem f_X_307 : g_fld "SkiPasses" 307 8 4 := ⟨by decide, by decide, Or.inl (g_mem 776 (by decide +kernel) rfl)⟩
theorem l_X_310 : Cond.methodLink "SkiPasses" 310 y_C_leftOn ∈ g_all := g_mem 1011 (by decide +kernel) rfl
theorem l_X_315 : Cond.methodLink "SkiPasses" 315 y_C_rideAt ∈ g_all := g_mem 1024 (by decide +kernel) rfl
theorem f_X_321 : g_fld "SkiPasses" 321 7 1 := ⟨by decide, by decide, Or.inl (g_mem 883 (by decide +kernel) rfl)⟩
theorem f_X_327 : g_fld "SkiPasses" 327 5 0 := ⟨by decide, by decide, Or.inl (g_mem 490 (by decide +kernel) rfl)⟩
theorem f_X_328 : g_fld "SkiPasses" 328 7 2 := ⟨by decide, by decide, Or.inl (g_mem 887 (by decide +kernel) rfl)⟩
theorem l_X_331 : Cond.methodLink "SkiPasses" 331 y_R_refundFor ∈ g_all := g_mem 1036 (by decide +kernel) rfl
theorem l_X_334 : Cond.methodLink "SkiPasses" 334 y_R_payBack ∈ g_all := g_mem 1058 (by decide +kernel) rfl
theorem l_X_337 : Cond.methodLink "SkiPasses" 337 y_X_requirePartner ∈ g_all := g_mem 1074 (by decide +kernel) rfl
theorem l_X_350 : Cond.methodLink "SkiPasses" 350 y_R_ridesAt ∈ g_all := g_mem 1085 (by decide +kernel) rfl
theorem l_X_353 : Cond.methodLink "SkiPasses" 353 y_R_gatesOf ∈ g_all := g_mem 1090 (by decide +kernel) rfl
theorem l_X_356 : Cond.methodLink "SkiPasses" 356 y_R_cardsSeenBy ∈ g_all := g_mem 1094 (by decide +kernel) rfl
theorem l_X_373 : Cond.methodLink "SkiPasses" 373 y_R_allRefundable ∈ g_all := g_mem 1106 (by decide +kernel) rfl
theorem l_X_378 : Cond.methodLink "SkiPasses" 378 y_R_cardsInForce ∈ g_all := g_mem 1132 (by decide +kernel) rfl
theorem c_X_381 : Cond.classLink "SkiPasses" 381 "java/lang/ArithmeticException" ∈ g_all := g_mem 1136 (by decide +kernel) rfl
theorem l_X_385 : Cond.methodLink "SkiPasses" 385 ⟨"java/lang/ArithmeticException", "<init>", "(Ljava/lang/String;)V"⟩ ∈ g_all := g_mem 1138 (by decide +kernel) rfl
theorem l_X_386 : Cond.methodLink "SkiPasses" 386 y_R_countedSoFar ∈ g_all := g_mem 1146 (by decide +kernel) rfl
theorem l_X_401 : Cond.methodLink "SkiPasses" 401 y_T_put ∈ g_all := g_mem 1160 (by decide +kernel) rfl
theorem l_X_404 : Cond.methodLink "SkiPasses" 404 y_T_findError ∈ g_all := g_mem 1171 (by decide +kernel) rfl
theorem l_X_407 : Cond.methodLink "SkiPasses" 407 y_T_empty ∈ g_all := g_mem 1203 (by decide +kernel) rfl
theorem l_X_410 : Cond.methodLink "SkiPasses" 410 y_H_keep ∈ g_all := g_mem 1208 (by decide +kernel) rfl
theorem l_X_413 : Cond.methodLink "SkiPasses" 413 y_X_firstRefusedOrder ∈ g_all := g_mem 1209 (by decide +kernel) rfl
theorem l_X_416 : Cond.methodLink "SkiPasses" 416 y_H_bringBack ∈ g_all := g_mem 1240 (by decide +kernel) rfl
theorem l_X_421 : Cond.methodLink "SkiPasses" 421 y_H_commit ∈ g_all := g_mem 1245 (by decide +kernel) rfl
theorem f_X_424 : g_fld "SkiPasses" 424 3 3 := ⟨by decide, by decide, Or.inr ⟨"SkiPasses", g_bmem 190 (by decide +kernel) rfl⟩⟩
theorem l_X_470 : Cond.methodLink "SkiPasses" 470 y_T_rewind ∈ g_all := g_mem 1213 (by decide +kernel) rfl
theorem l_X_473 : Cond.methodLink "SkiPasses" 473 y_T_takeOrder ∈ g_all := g_mem 1214 (by decide +kernel) rfl
theorem f_X_476 : g_fld "SkiPasses" 476 3 4 := ⟨by decide, by decide, Or.inr ⟨"SkiPasses", g_bmem 192 (by decide +kernel) rfl⟩⟩
theorem f_X_480 : g_fld "SkiPasses" 480 3 5 := ⟨by decide, by decide, Or.inr ⟨"SkiPasses", g_bmem 194 (by decide +kernel) rfl⟩⟩
theorem l_X_481 : Cond.methodLink "SkiPasses" 481 y_X_carriesOut ∈ g_all := g_mem 1215 (by decide +kernel) rfl
theorem l_X_485 : Cond.methodLink "SkiPasses" 485 y_T_skip ∈ g_all := g_mem 1239 (by decide +kernel) rfl
theorem f_X_489 : g_fld "SkiPasses" 489 3 6 := ⟨by decide, by decide, Or.inr ⟨"SkiPasses", g_bmem 196 (by decide +kernel) rfl⟩⟩
theorem l_X_492 : Cond.methodLink "SkiPasses" 492 y_X_orderSale ∈ g_all := g_mem 1219 (by decide +kernel) rfl
theorem l_X_496 : Cond.methodLink "SkiPasses" 496 y_X_orderBlock ∈ g_all := g_mem 1223 (by decide +kernel) rfl
theorem l_X_500 : Cond.methodLink "SkiPasses" 500 y_X_orderReplacement ∈ g_all := g_mem 1227 (by decide +kernel) rfl
theorem l_X_503 : Cond.methodLink "SkiPasses" 503 y_X_orderClosing ∈ g_all := g_mem 1231 (by decide +kernel) rfl
theorem l_X_506 : Cond.methodLink "SkiPasses" 506 y_X_orderWait ∈ g_all := g_mem 1235 (by decide +kernel) rfl
theorem l_X_433 : Cond.methodLink "SkiPasses" 433 y_H_stepBack ∈ g_all := g_mem 1270 (by decide +kernel) rfl
theorem l_R_3 : Cond.methodLink "SkiPasses$Resort" 3 Lib.objectInit ∈ g_all := g_mem 117 (by decide +kernel) rfl
theorem c_R_9 : Cond.classLink "SkiPasses$Resort" 9 "SkiPasses$Gate" ∈ g_all := g_mem 118 (by decide +kernel) rfl
theorem f_R_11 : g_fld "SkiPasses$Resort" 11 1 0 := ⟨by decide, by decide, Or.inl (g_mem 124 (by decide +kernel) rfl)⟩
theorem c_R_17 : Cond.classLink "SkiPasses$Resort" 17 "SkiPasses$Product" ∈ g_all := g_mem 120 (by decide +kernel) rfl
theorem f_R_19 : g_fld "SkiPasses$Resort" 19 1 1 := ⟨by decide, by decide, Or.inl (g_mem 125 (by decide +kernel) rfl)⟩
theorem c_R_23 : Cond.classLink "SkiPasses$Resort" 23 "SkiPasses$Card" ∈ g_all := g_mem 122 (by decide +kernel) rfl
theorem f_R_25 : g_fld "SkiPasses$Resort" 25 1 2 := ⟨by decide, by decide, Or.inl (g_mem 126 (by decide +kernel) rfl)⟩
theorem f_R_29 : g_fld "SkiPasses$Resort" 29 1 3 := ⟨by decide, by decide, Or.inl (g_mem 128 (by decide +kernel) rfl)⟩
theorem f_R_33 : g_fld "SkiPasses$Resort" 33 1 4 := ⟨by decide, by decide, Or.inl (g_mem 129 (by decide +kernel) rfl)⟩
theorem f_R_37 : g_fld "SkiPasses$Resort" 37 1 5 := ⟨by decide, by decide, Or.inl (g_mem 131 (by decide +kernel) rfl)⟩
theorem f_R_40 : g_fld "SkiPasses$Resort" 40 1 6 := ⟨by decide, by decide, Or.inl (g_mem 133 (by decide +kernel) rfl)⟩
theorem f_R_43 : g_fld "SkiPasses$Resort" 43 1 7 := ⟨by decide, by decide, Or.inl (g_mem 135 (by decide +kernel) rfl)⟩
theorem f_R_46 : g_fld "SkiPasses$Resort" 46 1 8 := ⟨by decide, by decide, Or.inl (g_mem 137 (by decide +kernel) rfl)⟩
theorem l_R_49 : Cond.methodLink "SkiPasses$Resort" 49 y_A_fill ∈ g_all := g_mem 259 (by decide +kernel) rfl
theorem l_R_216 : Cond.methodLink "SkiPasses$Resort" 216 y_C_price ∈ g_all := g_mem 274 (by decide +kernel) rfl
theorem f_R_219 : g_fld "SkiPasses$Resort" 219 8 4 := ⟨by decide, by decide, Or.inl (g_mem 777 (by decide +kernel) rfl)⟩
theorem l_R_189 : Cond.methodLink "SkiPasses$Resort" 189 y_C_rideCount ∈ g_all := g_mem 314 (by decide +kernel) rfl
theorem l_R_195 : Cond.methodLink "SkiPasses$Resort" 195 y_R_ridesThrough ∈ g_all := g_mem 319 (by decide +kernel) rfl
theorem l_R_192 : Cond.methodLink "SkiPasses$Resort" 192 y_C_ridesThrough ∈ g_all := g_mem 323 (by decide +kernel) rfl
theorem l_R_196 : Cond.methodLink "SkiPasses$Resort" 196 y_C_keepsWays ∈ g_all := g_mem 335 (by decide +kernel) rfl
theorem l_R_55 : Cond.methodLink "SkiPasses$Resort" 55 Lib.Math.min.name ∈ g_all := g_mem 354 (by decide +kernel) rfl
theorem l_R_61 : Cond.methodLink "SkiPasses$Resort" 61 arraycopyName ∈ g_all := g_mem 357 (by decide +kernel) rfl
theorem f_R_67 : g_fld "SkiPasses$Resort" 67 5 0 := ⟨by decide, by decide, Or.inl (g_mem 488 (by decide +kernel) rfl)⟩
theorem f_R_70 : g_fld "SkiPasses$Resort" 70 6 0 := ⟨by decide, by decide, Or.inl (g_mem 524 (by decide +kernel) rfl)⟩
theorem l_R_139 : Cond.methodLink "SkiPasses$Resort" 139 y_R_closedOn ∈ g_all := g_mem 629 (by decide +kernel) rfl
theorem f_R_143 : g_fld "SkiPasses$Resort" 143 5 1 := ⟨by decide, by decide, Or.inl (g_mem 494 (by decide +kernel) rfl)⟩
theorem l_R_146 : Cond.methodLink "SkiPasses$Resort" 146 y_P_isFor ∈ g_all := g_mem 651 (by decide +kernel) rfl
theorem f_R_150 : g_fld "SkiPasses$Resort" 150 8 2 := ⟨by decide, by decide, Or.inl (g_mem 770 (by decide +kernel) rfl)⟩
theorem f_R_87 : g_fld "SkiPasses$Resort" 87 8 1 := ⟨by decide, by decide, Or.inl (g_mem 766 (by decide +kernel) rfl)⟩
theorem l_R_124 : Cond.methodLink "SkiPasses$Resort" 124 y_R_isShut ∈ g_all := g_mem 682 (by decide +kernel) rfl
theorem l_R_128 : Cond.methodLink "SkiPasses$Resort" 128 y_R_countClosed ∈ g_all := g_mem 683 (by decide +kernel) rfl
theorem l_R_132 : Cond.methodLink "SkiPasses$Resort" 132 y_R_countedBetween ∈ g_all := g_mem 687 (by decide +kernel) rfl
theorem l_R_136 : Cond.methodLink "SkiPasses$Resort" 136 Lib.Math.max.name ∈ g_all := g_mem 690 (by decide +kernel) rfl
theorem l_R_71 : Cond.methodLink "SkiPasses$Resort" 71 y_R_insertCard ∈ g_all := g_mem 754 (by decide +kernel) rfl
theorem l_R_75 : Cond.methodLink "SkiPasses$Resort" 75 y_C_init ∈ g_all := g_mem 759 (by decide +kernel) rfl
theorem l_R_78 : Cond.methodLink "SkiPasses$Resort" 78 y_R_putCard ∈ g_all := g_mem 793 (by decide +kernel) rfl
theorem f_R_82 : g_fld "SkiPasses$Resort" 82 8 0 := ⟨by decide, by decide, Or.inl (g_mem 764 (by decide +kernel) rfl)⟩
theorem l_R_153 : Cond.methodLink "SkiPasses$Resort" 153 y_R_hour ∈ g_all := g_mem 818 (by decide +kernel) rfl
theorem l_R_157 : Cond.methodLink "SkiPasses$Resort" 157 y_P_isForHour ∈ g_all := g_mem 819 (by decide +kernel) rfl
theorem l_R_160 : Cond.methodLink "SkiPasses$Resort" 160 y_R_today ∈ g_all := g_mem 824 (by decide +kernel) rfl
theorem l_R_163 : Cond.methodLink "SkiPasses$Resort" 163 y_C_isValidForRideOn ∈ g_all := g_mem 825 (by decide +kernel) rfl
theorem f_R_91 : g_fld "SkiPasses$Resort" 91 8 5 := ⟨by decide, by decide, Or.inl (g_mem 779 (by decide +kernel) rfl)⟩
theorem l_R_166 : Cond.methodLink "SkiPasses$Resort" 166 y_R_reasonOfWay ∈ g_all := g_mem 848 (by decide +kernel) rfl
theorem f_R_170 : g_fld "SkiPasses$Resort" 170 7 2 := ⟨by decide, by decide, Or.inl (g_mem 888 (by decide +kernel) rfl)⟩
theorem f_R_173 : g_fld "SkiPasses$Resort" 173 7 1 := ⟨by decide, by decide, Or.inl (g_mem 884 (by decide +kernel) rfl)⟩
theorem l_R_177 : Cond.methodLink "SkiPasses$Resort" 177 y_G_wayTo ∈ g_all := g_mem 852 (by decide +kernel) rfl
theorem c_R_106 : Cond.classLink "SkiPasses$Resort" 106 "SkiPasses$Ride" ∈ g_all := g_mem 873 (by decide +kernel) rfl
theorem l_R_108 : Cond.methodLink "SkiPasses$Resort" 108 y_I_init ∈ g_all := g_mem 875 (by decide +kernel) rfl
theorem l_R_111 : Cond.methodLink "SkiPasses$Resort" 111 y_C_withRide ∈ g_all := g_mem 905 (by decide +kernel) rfl
theorem f_R_115 : g_fld "SkiPasses$Resort" 115 7 3 := ⟨by decide, by decide, Or.inl (g_mem 891 (by decide +kernel) rfl)⟩
theorem l_R_181 : Cond.methodLink "SkiPasses$Resort" 181 y_R_reasonAgainst ∈ g_all := g_mem 929 (by decide +kernel) rfl
theorem l_R_83 : Cond.methodLink "SkiPasses$Resort" 83 y_C_withBlock ∈ g_all := g_mem 975 (by decide +kernel) rfl
theorem l_R_95 : Cond.methodLink "SkiPasses$Resort" 95 y_C_replacedBy ∈ g_all := g_mem 991 (by decide +kernel) rfl
theorem l_R_118 : Cond.methodLink "SkiPasses$Resort" 118 y_R_cardAt ∈ g_all := g_mem 1009 (by decide +kernel) rfl
theorem f_R_121 : g_fld "SkiPasses$Resort" 121 8 3 := ⟨by decide, by decide, Or.inl (g_mem 772 (by decide +kernel) rfl)⟩
theorem l_R_200 : Cond.methodLink "SkiPasses$Resort" 200 y_C_isSettled ∈ g_all := g_mem 1040 (by decide +kernel) rfl
theorem l_R_203 : Cond.methodLink "SkiPasses$Resort" 203 y_P_refundPerDay ∈ g_all := g_mem 1041 (by decide +kernel) rfl
theorem l_R_206 : Cond.methodLink "SkiPasses$Resort" 206 y_R_closedDaysOf ∈ g_all := g_mem 1045 (by decide +kernel) rfl
theorem l_R_209 : Cond.methodLink "SkiPasses$Resort" 209 y_C_dayMask ∈ g_all := g_mem 1049 (by decide +kernel) rfl
theorem l_R_212 : Cond.methodLink "SkiPasses$Resort" 212 y_R_isClosedFor ∈ g_all := g_mem 1050 (by decide +kernel) rfl
theorem l_R_99 : Cond.methodLink "SkiPasses$Resort" 99 y_R_refundFor ∈ g_all := g_mem 1062 (by decide +kernel) rfl
theorem l_R_103 : Cond.methodLink "SkiPasses$Resort" 103 y_C_paidBack ∈ g_all := g_mem 1063 (by decide +kernel) rfl
theorem l_R_185 : Cond.methodLink "SkiPasses$Resort" 185 y_C_ridesAt ∈ g_all := g_mem 1089 (by decide +kernel) rfl
theorem l_H_3 : Cond.methodLink "SkiPasses$History" 3 Lib.objectInit ∈ g_all := g_mem 164 (by decide +kernel) rfl
theorem c_H_9 : Cond.classLink "SkiPasses$History" 9 "SkiPasses$Resort" ∈ g_all := g_mem 165 (by decide +kernel) rfl
theorem f_H_11 : g_fld "SkiPasses$History" 11 2 0 := ⟨by decide, by decide, Or.inl (g_mem 168 (by decide +kernel) rfl)⟩
theorem f_H_17 : g_fld "SkiPasses$History" 17 2 1 := ⟨by decide, by decide, Or.inl (g_mem 169 (by decide +kernel) rfl)⟩
theorem f_H_21 : g_fld "SkiPasses$History" 21 2 2 := ⟨by decide, by decide, Or.inl (g_mem 170 (by decide +kernel) rfl)⟩
theorem l_H_24 : Cond.methodLinkNest "SkiPasses$History" 24 y_R_init "SkiPasses" ∈ g_bads := g_bmem 167 (by decide +kernel) rfl
theorem l_H_25 : Cond.methodLink "SkiPasses$History" 25 y_H_keep ∈ g_all := g_mem 467 (by decide +kernel) rfl
theorem l_H_29 : Cond.methodLink "SkiPasses$History" 29 y_H_commit ∈ g_all := g_mem 476 (by decide +kernel) rfl
theorem l_H_32 : Cond.methodLink "SkiPasses$History" 32 y_H_nextPlace ∈ g_all := g_mem 471 (by decide +kernel) rfl
theorem l_H_36 : Cond.methodLink "SkiPasses$History" 36 y_R_copyFrom ∈ g_all := g_mem 475 (by decide +kernel) rfl
theorem l_H_39 : Cond.methodLink "SkiPasses$History" 39 Lib.Math.min.name ∈ g_all := g_mem 480 (by decide +kernel) rfl
theorem l_H_45 : Cond.methodLink "SkiPasses$History" 45 Lib.Math.max.name ∈ g_all := g_mem 1274 (by decide +kernel) rfl
theorem l_H_48 : Cond.methodLink "SkiPasses$History" 48 y_H_bringBack ∈ g_all := g_mem 1275 (by decide +kernel) rfl
theorem l_T_3 : Cond.methodLink "SkiPasses$Text" 3 Lib.objectInit ∈ g_all := g_mem 184 (by decide +kernel) rfl
theorem f_T_9 : g_fld "SkiPasses$Text" 9 3 0 := ⟨by decide, by decide, Or.inl (g_mem 185 (by decide +kernel) rfl)⟩
theorem f_T_15 : g_fld "SkiPasses$Text" 15 3 1 := ⟨by decide, by decide, Or.inl (g_mem 186 (by decide +kernel) rfl)⟩
theorem f_T_19 : g_fld "SkiPasses$Text" 19 3 2 := ⟨by decide, by decide, Or.inl (g_mem 188 (by decide +kernel) rfl)⟩
theorem f_T_22 : g_fld "SkiPasses$Text" 22 3 3 := ⟨by decide, by decide, Or.inl (g_mem 189 (by decide +kernel) rfl)⟩
theorem f_T_25 : g_fld "SkiPasses$Text" 25 3 4 := ⟨by decide, by decide, Or.inl (g_mem 191 (by decide +kernel) rfl)⟩
theorem f_T_29 : g_fld "SkiPasses$Text" 29 3 5 := ⟨by decide, by decide, Or.inl (g_mem 193 (by decide +kernel) rfl)⟩
theorem f_T_32 : g_fld "SkiPasses$Text" 32 3 6 := ⟨by decide, by decide, Or.inl (g_mem 195 (by decide +kernel) rfl)⟩
theorem l_T_35 : Cond.methodLink "SkiPasses$Text" 35 y_T_rewind ∈ g_all := g_mem 1175 (by decide +kernel) rfl
theorem l_T_38 : Cond.methodLink "SkiPasses$Text" 38 y_T_takeOrder ∈ g_all := g_mem 1179 (by decide +kernel) rfl
theorem l_T_42 : Cond.methodLink "SkiPasses$Text" 42 y_T_skip ∈ g_all := g_mem 1195 (by decide +kernel) rfl
theorem l_T_46 : Cond.methodLink "SkiPasses$Text" 46 y_T_sign ∈ g_all := g_mem 1183 (by decide +kernel) rfl
theorem l_T_50 : Cond.methodLink "SkiPasses$Text" 50 y_T_takeSale ∈ g_all := g_mem 1187 (by decide +kernel) rfl
theorem l_T_53 : Cond.methodLink "SkiPasses$Text" 53 y_T_takeNumber ∈ g_all := g_mem 1199 (by decide +kernel) rfl
theorem l_T_56 : Cond.methodLink "SkiPasses$Text" 56 y_T_takeDigit ∈ g_all := g_mem 1191 (by decide +kernel) rfl
theorem l_S_3 : Cond.methodLink "SkiPasses$Shares" 3 Lib.objectInit ∈ g_all := g_mem 218 (by decide +kernel) rfl
theorem f_S_9 : g_fld "SkiPasses$Shares" 9 4 0 := ⟨by decide, by decide, Or.inl (g_mem 219 (by decide +kernel) rfl)⟩
theorem l_S_15 : Cond.methodLink "SkiPasses$Shares" 15 y_C_price ∈ g_all := g_mem 294 (by decide +kernel) rfl
theorem f_S_21 : g_fld "SkiPasses$Shares" 21 8 4 := ⟨by decide, by decide, Or.inl (g_mem 775 (by decide +kernel) rfl)⟩
theorem l_S_25 : Cond.methodLink "SkiPasses$Shares" 25 y_C_ridesAt ∈ g_all := g_mem 295 (by decide +kernel) rfl
theorem l_S_29 : Cond.methodLink "SkiPasses$Shares" 29 y_C_rideCount ∈ g_all := g_mem 299 (by decide +kernel) rfl
theorem l_S_32 : Cond.methodLink "SkiPasses$Shares" 32 y_S_partByRides ∈ g_all := g_mem 303 (by decide +kernel) rfl
theorem f_G_18 : g_fld "SkiPasses$Gate" 18 5 2 := ⟨by decide, by decide, Or.inl (g_mem 495 (by decide +kernel) rfl)⟩
theorem l_G_21 : Cond.methodLink "SkiPasses$Gate" 21 Lib.Math.abs.name ∈ g_all := g_mem 343 (by decide +kernel) rfl
theorem f_G_15 : g_fld "SkiPasses$Gate" 15 5 1 := ⟨by decide, by decide, Or.inl (g_mem 491 (by decide +kernel) rfl)⟩
theorem l_G_3 : Cond.methodLink "SkiPasses$Gate" 3 Lib.objectInit ∈ g_all := g_mem 486 (by decide +kernel) rfl
theorem f_G_9 : g_fld "SkiPasses$Gate" 9 5 0 := ⟨by decide, by decide, Or.inl (g_mem 487 (by decide +kernel) rfl)⟩
theorem l_P_3 : Cond.methodLink "SkiPasses$Product" 3 Lib.objectInit ∈ g_all := g_mem 522 (by decide +kernel) rfl
theorem f_P_9 : g_fld "SkiPasses$Product" 9 6 0 := ⟨by decide, by decide, Or.inl (g_mem 523 (by decide +kernel) rfl)⟩
theorem f_P_15 : g_fld "SkiPasses$Product" 15 6 1 := ⟨by decide, by decide, Or.inl (g_mem 526 (by decide +kernel) rfl)⟩
theorem f_P_18 : g_fld "SkiPasses$Product" 18 6 2 := ⟨by decide, by decide, Or.inl (g_mem 529 (by decide +kernel) rfl)⟩
theorem f_P_21 : g_fld "SkiPasses$Product" 21 6 3 := ⟨by decide, by decide, Or.inl (g_mem 532 (by decide +kernel) rfl)⟩
theorem f_P_24 : g_fld "SkiPasses$Product" 24 6 4 := ⟨by decide, by decide, Or.inl (g_mem 534 (by decide +kernel) rfl)⟩
theorem f_P_27 : g_fld "SkiPasses$Product" 27 6 5 := ⟨by decide, by decide, Or.inl (g_mem 536 (by decide +kernel) rfl)⟩
theorem f_P_30 : g_fld "SkiPasses$Product" 30 6 6 := ⟨by decide, by decide, Or.inl (g_mem 538 (by decide +kernel) rfl)⟩
theorem l_P_33 : Cond.methodLinkNest "SkiPasses$Product" 33 y_X_isBetween "SkiPasses" ∈ g_bads := g_bmem 823 (by decide +kernel) rfl
theorem l_I_3 : Cond.methodLink "SkiPasses$Ride" 3 Lib.objectInit ∈ g_all := g_mem 878 (by decide +kernel) rfl
theorem f_I_9 : g_fld "SkiPasses$Ride" 9 7 0 := ⟨by decide, by decide, Or.inl (g_mem 879 (by decide +kernel) rfl)⟩
theorem f_I_15 : g_fld "SkiPasses$Ride" 15 7 1 := ⟨by decide, by decide, Or.inl (g_mem 881 (by decide +kernel) rfl)⟩
theorem f_I_19 : g_fld "SkiPasses$Ride" 19 7 2 := ⟨by decide, by decide, Or.inl (g_mem 885 (by decide +kernel) rfl)⟩
theorem f_I_23 : g_fld "SkiPasses$Ride" 23 7 3 := ⟨by decide, by decide, Or.inl (g_mem 889 (by decide +kernel) rfl)⟩
theorem f_I_26 : g_fld "SkiPasses$Ride" 26 7 4 := ⟨by decide, by decide, Or.inl (g_mem 892 (by decide +kernel) rfl)⟩
theorem f_C_19 : g_fld "SkiPasses$Card" 19 8 2 := ⟨by decide, by decide, Or.inl (g_mem 768 (by decide +kernel) rfl)⟩
theorem f_C_15 : g_fld "SkiPasses$Card" 15 8 1 := ⟨by decide, by decide, Or.inl (g_mem 765 (by decide +kernel) rfl)⟩
theorem f_C_35 : g_fld "SkiPasses$Card" 35 6 6 := ⟨by decide, by decide, Or.inl (g_mem 540 (by decide +kernel) rfl)⟩
theorem f_C_28 : g_fld "SkiPasses$Card" 28 8 5 := ⟨by decide, by decide, Or.inl (g_mem 778 (by decide +kernel) rfl)⟩
theorem f_C_57 : g_fld "SkiPasses$Card" 57 7 1 := ⟨by decide, by decide, Or.inl (g_mem 882 (by decide +kernel) rfl)⟩
theorem f_C_64 : g_fld "SkiPasses$Card" 64 5 1 := ⟨by decide, by decide, Or.inl (g_mem 493 (by decide +kernel) rfl)⟩
theorem f_C_54 : g_fld "SkiPasses$Card" 54 7 0 := ⟨by decide, by decide, Or.inl (g_mem 880 (by decide +kernel) rfl)⟩
theorem f_C_40 : g_fld "SkiPasses$Card" 40 7 3 := ⟨by decide, by decide, Or.inl (g_mem 890 (by decide +kernel) rfl)⟩
theorem f_C_61 : g_fld "SkiPasses$Card" 61 5 0 := ⟨by decide, by decide, Or.inl (g_mem 489 (by decide +kernel) rfl)⟩
theorem f_C_67 : g_fld "SkiPasses$Card" 67 7 2 := ⟨by decide, by decide, Or.inl (g_mem 886 (by decide +kernel) rfl)⟩
theorem l_C_70 : Cond.methodLink "SkiPasses$Card" 70 y_G_wayTo ∈ g_all := g_mem 339 (by decide +kernel) rfl
theorem l_C_3 : Cond.methodLink "SkiPasses$Card" 3 Lib.objectInit ∈ g_all := g_mem 762 (by decide +kernel) rfl
theorem f_C_9 : g_fld "SkiPasses$Card" 9 8 0 := ⟨by decide, by decide, Or.inl (g_mem 763 (by decide +kernel) rfl)⟩
theorem f_C_22 : g_fld "SkiPasses$Card" 22 8 3 := ⟨by decide, by decide, Or.inl (g_mem 771 (by decide +kernel) rfl)⟩
theorem f_C_25 : g_fld "SkiPasses$Card" 25 8 4 := ⟨by decide, by decide, Or.inl (g_mem 774 (by decide +kernel) rfl)⟩
theorem f_C_74 : g_fld "SkiPasses$Card" 74 6 1 := ⟨by decide, by decide, Or.inl (g_mem 528 (by decide +kernel) rfl)⟩
theorem l_C_77 : Cond.methodLink "SkiPasses$Card" 77 y_C_daysSinceFirst ∈ g_all := g_mem 829 (by decide +kernel) rfl
theorem f_C_80 : g_fld "SkiPasses$Card" 80 6 2 := ⟨by decide, by decide, Or.inl (g_mem 531 (by decide +kernel) rfl)⟩
theorem l_C_83 : Cond.methodLink "SkiPasses$Card" 83 y_C_dayMask ∈ g_all := g_mem 837 (by decide +kernel) rfl
theorem l_C_87 : Cond.methodLink "SkiPasses$Card" 87 y_J_bitCount ∈ g_all := g_mem 841 (by decide +kernel) rfl
theorem l_C_90 : Cond.methodLink "SkiPasses$Card" 90 y_C_rideCount ∈ g_all := g_mem 847 (by decide +kernel) rfl
theorem f_C_45 : g_fld "SkiPasses$Card" 45 7 4 := ⟨by decide, by decide, Or.inl (g_mem 893 (by decide +kernel) rfl)⟩
theorem l_C_48 : Cond.methodLink "SkiPasses$Card" 48 y_J_numberOfTrailingZeros ∈ g_all := g_mem 833 (by decide +kernel) rfl
theorem c_C_10 : Cond.classLink "SkiPasses$Card" 10 "SkiPasses$Card" ∈ g_all := g_mem 909 (by decide +kernel) rfl
theorem l_C_32 : Cond.methodLink "SkiPasses$Card" 32 y_C_init ∈ g_all := g_mem 910 (by decide +kernel) rfl
theorem l_C_93 : Cond.methodLink "SkiPasses$Card" 93 Lib.Math.max.name ∈ g_all := g_mem 1015 (by decide +kernel) rfl
theorem l_M_1 : Cond.methodLink "SkiPassesModel" 1 Lib.objectInit ∈ g_all := g_mem 1289 (by decide +kernel) rfl
theorem f_M_9 : g_fld "SkiPassesModel" 9 9 0 := ⟨by decide, by decide, Or.inl (g_mem 1290 (by decide +kernel) rfl)⟩
theorem f_M_13 : g_fld "SkiPassesModel" 13 9 1 := ⟨by decide, by decide, Or.inl (g_mem 1291 (by decide +kernel) rfl)⟩
theorem f_M_16 : g_fld "SkiPassesModel" 16 9 3 := ⟨by decide, by decide, Or.inl (g_mem 1293 (by decide +kernel) rfl)⟩
theorem f_M_19 : g_fld "SkiPassesModel" 19 9 5 := ⟨by decide, by decide, Or.inl (g_mem 1295 (by decide +kernel) rfl)⟩
theorem f_M_22 : g_fld "SkiPassesModel" 22 9 8 := ⟨by decide, by decide, Or.inl (g_mem 1298 (by decide +kernel) rfl)⟩
theorem f_M_26 : g_fld "SkiPassesModel" 26 9 9 := ⟨by decide, by decide, Or.inl (g_mem 1299 (by decide +kernel) rfl)⟩
theorem f_M_29 : g_fld "SkiPassesModel" 29 9 10 := ⟨by decide, by decide, Or.inl (g_mem 1300 (by decide +kernel) rfl)⟩
theorem f_M_33 : g_fld "SkiPassesModel" 33 9 6 := ⟨by decide, by decide, Or.inl (g_mem 1296 (by decide +kernel) rfl)⟩
theorem f_M_36 : g_fld "SkiPassesModel" 36 9 2 := ⟨by decide, by decide, Or.inl (g_mem 1292 (by decide +kernel) rfl)⟩
theorem f_M_49 : g_fld "SkiPassesModel" 49 9 7 := ⟨by decide, by decide, Or.inl (g_mem 1297 (by decide +kernel) rfl)⟩
theorem l_M_45 : Cond.methodLink "SkiPassesModel" 45 y_M_isIn ∈ g_all := g_mem 1357 (by decide +kernel) rfl
theorem l_M_52 : Cond.methodLink "SkiPassesModel" 52 y_M_fail ∈ g_all := g_mem 1360 (by decide +kernel) rfl
theorem l_M_56 : Cond.methodLink "SkiPassesModel" 56 y_M_changes ∈ g_all := g_mem 1364 (by decide +kernel) rfl
theorem l_M_39 : Cond.methodLink "SkiPassesModel" 39 y_M_keepTried ∈ g_all := g_mem 1368 (by decide +kernel) rfl
theorem l_M_42 : Cond.methodLink "SkiPassesModel" 42 y_M_remember ∈ g_all := g_mem 1372 (by decide +kernel) rfl
theorem l_M_69 : Cond.methodLink "SkiPassesModel" 69 y_M_isGate ∈ g_all := g_mem 1384 (by decide +kernel) rfl
theorem l_M_63 : Cond.methodLink "SkiPassesModel" 63 y_M_g ∈ g_all := g_mem 1388 (by decide +kernel) rfl
theorem l_M_73 : Cond.methodLink "SkiPassesModel" 73 y_M_ridesAt ∈ g_all := g_mem 1392 (by decide +kernel) rfl
theorem l_M_76 : Cond.methodLink "SkiPassesModel" 76 y_M_today ∈ g_all := g_mem 1400 (by decide +kernel) rfl
theorem l_M_66 : Cond.methodLink "SkiPassesModel" 66 y_M_closedOn ∈ g_all := g_mem 1404 (by decide +kernel) rfl
theorem l_M_80 : Cond.methodLink "SkiPassesModel" 80 y_M_closedInAll ∈ g_all := g_mem 1408 (by decide +kernel) rfl
theorem l_M_59 : Cond.methodLink "SkiPassesModel" 59 y_M_rideOf ∈ g_all := g_mem 1396 (by decide +kernel) rfl
theorem l_M_93 : Cond.methodLink "SkiPassesModel" 93 y_M_isProduct ∈ g_all := g_mem 1416 (by decide +kernel) rfl
theorem l_M_83 : Cond.methodLink "SkiPassesModel" 83 y_M_p ∈ g_all := g_mem 1420 (by decide +kernel) rfl
theorem l_M_96 : Cond.methodLink "SkiPassesModel" 96 y_M_gatesOf ∈ g_all := g_mem 1424 (by decide +kernel) rfl
theorem l_M_99 : Cond.methodLink "SkiPassesModel" 99 y_M_cardsWith ∈ g_all := g_mem 1431 (by decide +kernel) rfl
theorem l_M_86 : Cond.methodLink "SkiPassesModel" 86 y_M_has ∈ g_all := g_mem 1428 (by decide +kernel) rfl
theorem l_M_90 : Cond.methodLink "SkiPassesModel" 90 y_M_c ∈ g_all := g_mem 1435 (by decide +kernel) rfl
theorem l_M_103 : Cond.methodLink "SkiPassesModel" 103 y_M_wayOf ∈ g_all := g_mem 1443 (by decide +kernel) rfl
theorem l_M_107 : Cond.methodLink "SkiPassesModel" 107 y_M_advanceProblem ∈ g_all := g_mem 1451 (by decide +kernel) rfl
theorem l_M_110 : Cond.methodLink "SkiPassesModel" 110 y_M_goesOn ∈ g_all := g_mem 1456 (by decide +kernel) rfl
theorem k_M_106 : Cond.constant "SkiPassesModel" 106 43200 ∈ g_all := g_mem 1455 (by decide +kernel) rfl
theorem l_M_114 : Cond.methodLink "SkiPassesModel" 114 y_M_hourNow ∈ g_all := g_mem 1464 (by decide +kernel) rfl
theorem l_M_117 : Cond.methodLink "SkiPassesModel" 117 y_M_closedGates ∈ g_all := g_mem 1468 (by decide +kernel) rfl
theorem f_M_120 : g_fld "SkiPassesModel" 120 9 11 := ⟨by decide, by decide, Or.inl (g_mem 1301 (by decide +kernel) rfl)⟩
theorem l_M_123 : Cond.methodLink "SkiPassesModel" 123 y_M_isClosed ∈ g_all := g_mem 1484 (by decide +kernel) rfl
theorem l_M_130 : Cond.methodLink "SkiPassesModel" 130 y_M_sellProblem ∈ g_all := g_mem 1492 (by decide +kernel) rfl
theorem l_M_133 : Cond.methodLink "SkiPassesModel" 133 y_M_comesCard ∈ g_all := g_mem 1496 (by decide +kernel) rfl
theorem l_M_126 : Cond.methodLink "SkiPassesModel" 126 y_M_setC ∈ g_all := g_mem 1500 (by decide +kernel) rfl
theorem l_M_148 : Cond.methodLink "SkiPassesModel" 148 y_M_isCard ∈ g_all := g_mem 1508 (by decide +kernel) rfl
theorem l_M_151 : Cond.methodLink "SkiPassesModel" 151 y_M_refusalBy ∈ g_all := g_mem 1512 (by decide +kernel) rfl
theorem l_M_136 : Cond.methodLink "SkiPassesModel" 136 y_M_ridesOn ∈ g_all := g_mem 1520 (by decide +kernel) rfl
theorem l_M_145 : Cond.methodLink "SkiPassesModel" 145 y_M_isValid ∈ g_all := g_mem 1516 (by decide +kernel) rfl
theorem l_M_139 : Cond.methodLink "SkiPassesModel" 139 y_M_rideAt ∈ g_all := g_mem 1524 (by decide +kernel) rfl
theorem l_M_142 : Cond.methodLink "SkiPassesModel" 142 y_M_daysOf ∈ g_all := g_mem 1528 (by decide +kernel) rfl
theorem l_M_157 : Cond.methodLink "SkiPassesModel" 157 y_M_stateProblem ∈ g_all := g_mem 1548 (by decide +kernel) rfl
theorem l_M_154 : Cond.methodLink "SkiPassesModel" 154 y_M_isGone ∈ g_all := g_mem 1552 (by decide +kernel) rfl
theorem l_M_160 : Cond.methodLink "SkiPassesModel" 160 y_M_replaceProblem ∈ g_all := g_mem 1560 (by decide +kernel) rfl
theorem l_M_163 : Cond.methodLink "SkiPassesModel" 163 y_M_replaces ∈ g_all := g_mem 1564 (by decide +kernel) rfl
theorem l_M_166 : Cond.methodLink "SkiPassesModel" 166 y_M_lastOf ∈ g_all := g_mem 1572 (by decide +kernel) rfl
theorem l_M_169 : Cond.methodLink "SkiPassesModel" 169 y_M_leftOn ∈ g_all := g_mem 1576 (by decide +kernel) rfl
theorem l_M_172 : Cond.methodLink "SkiPassesModel" 172 y_M_refundOf ∈ g_all := g_mem 1588 (by decide +kernel) rfl
theorem l_M_181 : Cond.methodLink "SkiPassesModel" 181 y_M_shareOf ∈ g_all := g_mem 1600 (by decide +kernel) rfl
theorem l_M_175 : Cond.methodLink "SkiPassesModel" 175 y_M_keptOf ∈ g_all := g_mem 1604 (by decide +kernel) rfl
theorem l_M_178 : Cond.methodLink "SkiPassesModel" 178 y_M_ridesOf ∈ g_all := g_mem 1608 (by decide +kernel) rfl
theorem l_M_184 : Cond.methodLink "SkiPassesModel" 184 y_M_sharesOf ∈ g_all := g_mem 1616 (by decide +kernel) rfl
theorem l_M_187 : Cond.methodLink "SkiPassesModel" 187 y_M_ridesOfPartner ∈ g_all := g_mem 1620 (by decide +kernel) rfl
theorem l_M_190 : Cond.methodLink "SkiPassesModel" 190 y_M_gatesOfPartner ∈ g_all := g_mem 1624 (by decide +kernel) rfl
theorem l_M_193 : Cond.methodLink "SkiPassesModel" 193 y_M_cardsOfPartner ∈ g_all := g_mem 1628 (by decide +kernel) rfl
theorem l_M_196 : Cond.methodLink "SkiPassesModel" 196 y_M_sharesInAll ∈ g_all := g_mem 1636 (by decide +kernel) rfl
theorem l_M_199 : Cond.methodLink "SkiPassesModel" 199 y_M_sumOf ∈ g_all := g_mem 1640 (by decide +kernel) rfl
theorem f_M_209 : g_fld "SkiPassesModel" 209 9 12 := ⟨by decide, by decide, Or.inl (g_mem 1302 (by decide +kernel) rfl)⟩
theorem l_M_245 : Cond.methodLink "SkiPassesModel" 245 y_M_orders ∈ g_all := g_mem 1664 (by decide +kernel) rfl
theorem f_M_202 : g_fld "SkiPassesModel" 202 9 14 := ⟨by decide, by decide, Or.inl (g_mem 1304 (by decide +kernel) rfl)⟩
theorem f_M_206 : g_fld "SkiPassesModel" 206 9 13 := ⟨by decide, by decide, Or.inl (g_mem 1303 (by decide +kernel) rfl)⟩
theorem l_M_239 : Cond.methodLink "SkiPassesModel" 239 y_M_readsOrder ∈ g_all := g_mem 1668 (by decide +kernel) rfl
theorem l_M_242 : Cond.methodLink "SkiPassesModel" 242 y_M_carriesOut ∈ g_all := g_mem 1688 (by decide +kernel) rfl
theorem l_M_212 : Cond.methodLink "SkiPassesModel" 212 y_M_isAt ∈ g_all := g_mem 1676 (by decide +kernel) rfl
theorem l_M_222 : Cond.methodLink "SkiPassesModel" 222 y_M_isLetter ∈ g_all := g_mem 1672 (by decide +kernel) rfl
theorem f_M_226 : g_fld "SkiPassesModel" 226 9 15 := ⟨by decide, by decide, Or.inl (g_mem 1305 (by decide +kernel) rfl)⟩
theorem f_M_230 : g_fld "SkiPassesModel" 230 9 17 := ⟨by decide, by decide, Or.inl (g_mem 1307 (by decide +kernel) rfl)⟩
theorem l_M_233 : Cond.methodLink "SkiPassesModel" 233 y_M_readsNumber ∈ g_all := g_mem 1680 (by decide +kernel) rfl
theorem l_M_216 : Cond.methodLink "SkiPassesModel" 216 y_M_digit ∈ g_all := g_mem 1684 (by decide +kernel) rfl
theorem f_M_219 : g_fld "SkiPassesModel" 219 9 16 := ⟨by decide, by decide, Or.inl (g_mem 1306 (by decide +kernel) rfl)⟩
theorem l_M_236 : Cond.methodLink "SkiPassesModel" 236 y_M_sells ∈ g_all := g_mem 1692 (by decide +kernel) rfl
theorem f_M_249 : g_fld "SkiPassesModel" 249 9 4 := ⟨by decide, by decide, Or.inl (g_mem 1294 (by decide +kernel) rfl)⟩
theorem c_L_8 : Cond.classLink "SkiPassesLaw" 8 "SkiPasses" ∈ g_all := g_mem 104 (by decide +kernel) rfl
theorem l_L_127 : Cond.methodLink "SkiPassesLaw" 127 y_X_init ∈ g_all := g_mem 106 (by decide +kernel) rfl
theorem c_L_128 : Cond.classLink "SkiPassesLaw" 128 "SkiPassesModel" ∈ g_all := g_mem 1284 (by decide +kernel) rfl
theorem l_L_130 : Cond.methodLink "SkiPassesLaw" 130 y_M_init ∈ g_all := g_mem 1286 (by decide +kernel) rfl
theorem l_L_131 : Cond.methodLink "SkiPassesLaw" 131 y_X_clear ∈ g_all := g_mem 251 (by decide +kernel) rfl
theorem l_L_134 : Cond.methodLink "SkiPassesLaw" 134 y_M_clear ∈ g_all := g_mem 1349 (by decide +kernel) rfl
theorem l_L_135 : Cond.methodLink "SkiPassesLaw" 135 y_L_addGate ∈ g_all := g_mem 360 (by decide +kernel) rfl
theorem l_L_140 : Cond.methodLink "SkiPassesLaw" 140 y_M_addGate ∈ g_all := g_mem 1353 (by decide +kernel) rfl
theorem l_L_141 : Cond.methodLink "SkiPassesLaw" 141 y_M_thrown ∈ g_all := g_mem 1345 (by decide +kernel) rfl
theorem l_L_144 : Cond.methodLink "SkiPassesLaw" 144 y_L_addProduct ∈ g_all := g_mem 508 (by decide +kernel) rfl
theorem l_L_147 : Cond.methodLink "SkiPassesLaw" 147 y_M_addProduct ∈ g_all := g_mem 1376 (by decide +kernel) rfl
theorem l_L_148 : Cond.methodLink "SkiPassesLaw" 148 y_L_gate ∈ g_all := g_mem 560 (by decide +kernel) rfl
theorem l_L_150 : Cond.methodLink "SkiPassesLaw" 150 y_M_gate ∈ g_all := g_mem 1380 (by decide +kernel) rfl
theorem l_L_151 : Cond.methodLink "SkiPassesLaw" 151 y_L_product ∈ g_all := g_mem 631 (by decide +kernel) rfl
theorem l_L_153 : Cond.methodLink "SkiPassesLaw" 153 y_M_product ∈ g_all := g_mem 1412 (by decide +kernel) rfl
theorem l_L_154 : Cond.methodLink "SkiPassesLaw" 154 y_L_way ∈ g_all := g_mem 660 (by decide +kernel) rfl
theorem l_L_156 : Cond.methodLink "SkiPassesLaw" 156 y_M_way ∈ g_all := g_mem 1439 (by decide +kernel) rfl
theorem l_L_157 : Cond.methodLink "SkiPassesLaw" 157 y_L_advance ∈ g_all := g_mem 668 (by decide +kernel) rfl
theorem l_L_160 : Cond.methodLink "SkiPassesLaw" 160 y_M_advance ∈ g_all := g_mem 1447 (by decide +kernel) rfl
theorem l_L_161 : Cond.methodLink "SkiPassesLaw" 161 y_L_system ∈ g_all := g_mem 693 (by decide +kernel) rfl
theorem l_L_163 : Cond.methodLink "SkiPassesLaw" 163 y_M_system ∈ g_all := g_mem 1460 (by decide +kernel) rfl
theorem l_L_164 : Cond.methodLink "SkiPassesLaw" 164 y_L_setClosed ∈ g_all := g_mem 705 (by decide +kernel) rfl
theorem l_L_167 : Cond.methodLink "SkiPassesLaw" 167 y_M_setClosed ∈ g_all := g_mem 1472 (by decide +kernel) rfl
theorem l_L_168 : Cond.methodLink "SkiPassesLaw" 168 y_L_closedMinutes ∈ g_all := g_mem 716 (by decide +kernel) rfl
theorem l_L_170 : Cond.methodLink "SkiPassesLaw" 170 y_M_closedMinutes ∈ g_all := g_mem 1476 (by decide +kernel) rfl
theorem l_L_171 : Cond.methodLink "SkiPassesLaw" 171 y_L_isClosedDay ∈ g_all := g_mem 727 (by decide +kernel) rfl
theorem l_L_173 : Cond.methodLink "SkiPassesLaw" 173 y_M_isClosedDay ∈ g_all := g_mem 1480 (by decide +kernel) rfl
theorem l_L_174 : Cond.methodLink "SkiPassesLaw" 174 y_L_sell ∈ g_all := g_mem 738 (by decide +kernel) rfl
theorem l_L_176 : Cond.methodLink "SkiPassesLaw" 176 y_M_sell ∈ g_all := g_mem 1488 (by decide +kernel) rfl
theorem l_L_177 : Cond.methodLink "SkiPassesLaw" 177 y_L_pass ∈ g_all := g_mem 797 (by decide +kernel) rfl
theorem l_L_179 : Cond.methodLink "SkiPassesLaw" 179 y_M_pass ∈ g_all := g_mem 1504 (by decide +kernel) rfl
theorem l_L_180 : Cond.methodLink "SkiPassesLaw" 180 y_L_reason ∈ g_all := g_mem 911 (by decide +kernel) rfl
theorem l_L_182 : Cond.methodLink "SkiPassesLaw" 182 y_M_reason ∈ g_all := g_mem 1532 (by decide +kernel) rfl
theorem l_L_183 : Cond.methodLink "SkiPassesLaw" 183 y_L_openGates ∈ g_all := g_mem 918 (by decide +kernel) rfl
theorem l_L_185 : Cond.methodLink "SkiPassesLaw" 185 y_M_openGates ∈ g_all := g_mem 1536 (by decide +kernel) rfl
theorem l_L_186 : Cond.methodLink "SkiPassesLaw" 186 y_L_refusal ∈ g_all := g_mem 930 (by decide +kernel) rfl
theorem l_L_188 : Cond.methodLink "SkiPassesLaw" 188 y_M_refusal ∈ g_all := g_mem 1540 (by decide +kernel) rfl
theorem l_L_189 : Cond.methodLink "SkiPassesLaw" 189 y_L_block ∈ g_all := g_mem 959 (by decide +kernel) rfl
theorem l_L_191 : Cond.methodLink "SkiPassesLaw" 191 y_M_block ∈ g_all := g_mem 1544 (by decide +kernel) rfl
theorem l_L_192 : Cond.methodLink "SkiPassesLaw" 192 y_L_replace ∈ g_all := g_mem 979 (by decide +kernel) rfl
theorem l_L_194 : Cond.methodLink "SkiPassesLaw" 194 y_M_replace ∈ g_all := g_mem 1556 (by decide +kernel) rfl
theorem l_L_195 : Cond.methodLink "SkiPassesLaw" 195 y_L_card ∈ g_all := g_mem 995 (by decide +kernel) rfl
theorem l_L_197 : Cond.methodLink "SkiPassesLaw" 197 y_M_card ∈ g_all := g_mem 1568 (by decide +kernel) rfl
theorem l_L_198 : Cond.methodLink "SkiPassesLaw" 198 y_L_ride ∈ g_all := g_mem 1017 (by decide +kernel) rfl
theorem l_L_201 : Cond.methodLink "SkiPassesLaw" 201 y_M_ride ∈ g_all := g_mem 1580 (by decide +kernel) rfl
theorem l_L_202 : Cond.methodLink "SkiPassesLaw" 202 y_L_refundable ∈ g_all := g_mem 1029 (by decide +kernel) rfl
theorem l_L_204 : Cond.methodLink "SkiPassesLaw" 204 y_M_refundable ∈ g_all := g_mem 1584 (by decide +kernel) rfl
theorem l_L_205 : Cond.methodLink "SkiPassesLaw" 205 y_L_refund ∈ g_all := g_mem 1051 (by decide +kernel) rfl
theorem l_L_207 : Cond.methodLink "SkiPassesLaw" 207 y_M_refund ∈ g_all := g_mem 1592 (by decide +kernel) rfl
theorem l_L_208 : Cond.methodLink "SkiPassesLaw" 208 y_L_share ∈ g_all := g_mem 1067 (by decide +kernel) rfl
theorem l_L_210 : Cond.methodLink "SkiPassesLaw" 210 y_M_share ∈ g_all := g_mem 1596 (by decide +kernel) rfl
theorem l_L_211 : Cond.methodLink "SkiPassesLaw" 211 y_L_partner ∈ g_all := g_mem 1078 (by decide +kernel) rfl
theorem l_L_213 : Cond.methodLink "SkiPassesLaw" 213 y_M_partner ∈ g_all := g_mem 1612 (by decide +kernel) rfl
theorem l_L_214 : Cond.methodLink "SkiPassesLaw" 214 y_L_account ∈ g_all := g_mem 1099 (by decide +kernel) rfl
theorem l_L_216 : Cond.methodLink "SkiPassesLaw" 216 y_M_account ∈ g_all := g_mem 1632 (by decide +kernel) rfl
theorem l_L_217 : Cond.methodLink "SkiPassesLaw" 217 y_L_meanRides ∈ g_all := g_mem 1111 (by decide +kernel) rfl
theorem l_L_220 : Cond.methodLink "SkiPassesLaw" 220 y_M_meanRides ∈ g_all := g_mem 1644 (by decide +kernel) rfl
theorem l_L_221 : Cond.methodLink "SkiPassesLaw" 221 y_L_closedShare ∈ g_all := g_mem 1139 (by decide +kernel) rfl
theorem l_L_224 : Cond.methodLink "SkiPassesLaw" 224 y_M_closedShare ∈ g_all := g_mem 1648 (by decide +kernel) rfl
theorem l_L_225 : Cond.methodLink "SkiPassesLaw" 225 y_X_isConsistent ∈ g_all := g_mem 266 (by decide +kernel) rfl
theorem l_L_229 : Cond.methodLink "SkiPassesLaw" 229 y_M_isConsistent ∈ g_all := g_mem 1652 (by decide +kernel) rfl
theorem l_L_230 : Cond.methodLink "SkiPassesLaw" 230 y_L_append ∈ g_all := g_mem 1151 (by decide +kernel) rfl
theorem l_L_232 : Cond.methodLink "SkiPassesLaw" 232 y_M_append ∈ g_all := g_mem 1656 (by decide +kernel) rfl
theorem l_L_233 : Cond.methodLink "SkiPassesLaw" 233 y_L_read ∈ g_all := g_mem 1164 (by decide +kernel) rfl
theorem l_L_236 : Cond.methodLink "SkiPassesLaw" 236 y_M_read ∈ g_all := g_mem 1660 (by decide +kernel) rfl
theorem l_L_237 : Cond.methodLink "SkiPassesLaw" 237 y_L_errorPosition ∈ g_all := g_mem 1246 (by decide +kernel) rfl
theorem l_L_239 : Cond.methodLink "SkiPassesLaw" 239 y_M_errorPosition ∈ g_all := g_mem 1696 (by decide +kernel) rfl
theorem l_L_240 : Cond.methodLink "SkiPassesLaw" 240 y_L_refusedOrder ∈ g_all := g_mem 1254 (by decide +kernel) rfl
theorem l_L_242 : Cond.methodLink "SkiPassesLaw" 242 y_M_refusedOrder ∈ g_all := g_mem 1700 (by decide +kernel) rfl
theorem l_L_243 : Cond.methodLink "SkiPassesLaw" 243 y_L_undo ∈ g_all := g_mem 1262 (by decide +kernel) rfl
theorem l_L_245 : Cond.methodLink "SkiPassesLaw" 245 y_M_undo ∈ g_all := g_mem 1704 (by decide +kernel) rfl
theorem l_L_246 : Cond.methodLink "SkiPassesLaw" 246 y_X_snapshot ∈ g_all := g_mem 346 (by decide +kernel) rfl
theorem l_L_249 : Cond.methodLink "SkiPassesLaw" 249 y_M_snapshot ∈ g_all := g_mem 1708 (by decide +kernel) rfl
theorem l_L_250 : Cond.methodLink "SkiPassesLaw" 250 y_L_restore ∈ g_all := g_mem 1276 (by decide +kernel) rfl
theorem l_L_252 : Cond.methodLink "SkiPassesLaw" 252 y_M_restore ∈ g_all := g_mem 1712 (by decide +kernel) rfl
theorem l_L_7 : Cond.methodLink "SkiPassesLaw" 7 y_X_addGate ∈ g_all := g_mem 365 (by decide +kernel) rfl
theorem l_L_17 : Cond.methodLink "SkiPassesLaw" 17 y_X_addProduct ∈ g_all := g_mem 511 (by decide +kernel) rfl
theorem l_L_21 : Cond.methodLink "SkiPassesLaw" 21 y_X_gate ∈ g_all := g_mem 587 (by decide +kernel) rfl
theorem l_L_26 : Cond.methodLink "SkiPassesLaw" 26 y_X_product ∈ g_all := g_mem 634 (by decide +kernel) rfl
theorem l_L_29 : Cond.methodLink "SkiPassesLaw" 29 y_X_way ∈ g_all := g_mem 663 (by decide +kernel) rfl
theorem l_L_32 : Cond.methodLink "SkiPassesLaw" 32 y_X_advance ∈ g_all := g_mem 671 (by decide +kernel) rfl
theorem l_L_36 : Cond.methodLink "SkiPassesLaw" 36 y_X_system ∈ g_all := g_mem 696 (by decide +kernel) rfl
theorem l_L_39 : Cond.methodLink "SkiPassesLaw" 39 y_X_setClosed ∈ g_all := g_mem 708 (by decide +kernel) rfl
theorem l_L_43 : Cond.methodLink "SkiPassesLaw" 43 y_X_closedMinutes ∈ g_all := g_mem 719 (by decide +kernel) rfl
theorem l_L_46 : Cond.methodLink "SkiPassesLaw" 46 y_X_isClosedDay ∈ g_all := g_mem 730 (by decide +kernel) rfl
theorem l_L_50 : Cond.methodLink "SkiPassesLaw" 50 y_X_sell ∈ g_all := g_mem 741 (by decide +kernel) rfl
theorem l_L_53 : Cond.methodLink "SkiPassesLaw" 53 y_X_pass ∈ g_all := g_mem 801 (by decide +kernel) rfl
theorem l_L_58 : Cond.methodLink "SkiPassesLaw" 58 y_X_reason ∈ g_all := g_mem 914 (by decide +kernel) rfl
theorem l_L_61 : Cond.methodLink "SkiPassesLaw" 61 y_X_openGates ∈ g_all := g_mem 921 (by decide +kernel) rfl
theorem l_L_64 : Cond.methodLink "SkiPassesLaw" 64 y_X_refusal ∈ g_all := g_mem 934 (by decide +kernel) rfl
theorem l_L_69 : Cond.methodLink "SkiPassesLaw" 69 y_X_block ∈ g_all := g_mem 962 (by decide +kernel) rfl
theorem l_L_73 : Cond.methodLink "SkiPassesLaw" 73 y_X_replace ∈ g_all := g_mem 982 (by decide +kernel) rfl
theorem l_L_76 : Cond.methodLink "SkiPassesLaw" 76 y_X_card ∈ g_all := g_mem 998 (by decide +kernel) rfl
theorem l_L_79 : Cond.methodLink "SkiPassesLaw" 79 y_X_ride ∈ g_all := g_mem 1020 (by decide +kernel) rfl
theorem l_L_83 : Cond.methodLink "SkiPassesLaw" 83 y_X_refundable ∈ g_all := g_mem 1032 (by decide +kernel) rfl
theorem l_L_86 : Cond.methodLink "SkiPassesLaw" 86 y_X_refund ∈ g_all := g_mem 1054 (by decide +kernel) rfl
theorem l_L_89 : Cond.methodLink "SkiPassesLaw" 89 y_X_share ∈ g_all := g_mem 1070 (by decide +kernel) rfl
theorem l_L_92 : Cond.methodLink "SkiPassesLaw" 92 y_X_partner ∈ g_all := g_mem 1081 (by decide +kernel) rfl
theorem l_L_95 : Cond.methodLink "SkiPassesLaw" 95 y_X_account ∈ g_all := g_mem 1102 (by decide +kernel) rfl
theorem l_L_98 : Cond.methodLink "SkiPassesLaw" 98 y_X_meanRides ∈ g_all := g_mem 1128 (by decide +kernel) rfl
theorem l_L_104 : Cond.methodLink "SkiPassesLaw" 104 y_X_closedShare ∈ g_all := g_mem 1142 (by decide +kernel) rfl
theorem l_L_108 : Cond.methodLink "SkiPassesLaw" 108 y_X_append ∈ g_all := g_mem 1154 (by decide +kernel) rfl
theorem l_L_111 : Cond.methodLink "SkiPassesLaw" 111 y_X_read ∈ g_all := g_mem 1167 (by decide +kernel) rfl
theorem l_L_115 : Cond.methodLink "SkiPassesLaw" 115 y_X_errorPosition ∈ g_all := g_mem 1249 (by decide +kernel) rfl
theorem l_L_118 : Cond.methodLink "SkiPassesLaw" 118 y_X_refusedOrder ∈ g_all := g_mem 1257 (by decide +kernel) rfl
theorem l_L_121 : Cond.methodLink "SkiPassesLaw" 121 y_X_undo ∈ g_all := g_mem 1265 (by decide +kernel) rfl
theorem l_L_124 : Cond.methodLink "SkiPassesLaw" 124 y_X_restore ∈ g_all := g_mem 1279 (by decide +kernel) rfl
theorem k_J_264 : Cond.constant "java/lang/Integer" 264 65536 ∈ g_all := g_mem 836 (by decide +kernel) rfl
theorem k_J_265 : Cond.constant "java/lang/Integer" 265 1431655765 ∈ g_all := g_mem 844 (by decide +kernel) rfl
theorem k_J_266 : Cond.constant "java/lang/Integer" 266 858993459 ∈ g_all := g_mem 845 (by decide +kernel) rfl
theorem k_J_267 : Cond.constant "java/lang/Integer" 267 252645135 ∈ g_all := g_mem 846 (by decide +kernel) rfl
theorem ni_X : Cond.instantiable (g_C 0) (g_n 0) ∈ g_all ∧ Cond.initialized (g_C 0) ∈ g_all := ⟨g_mem 105 (by decide +kernel) rfl, g_mem 79 (by decide +kernel) rfl⟩
theorem ni_R : Cond.instantiable (g_C 1) (g_n 1) ∈ g_all ∧ Cond.initialized (g_C 1) ∈ g_all := ⟨g_mem 113 (by decide +kernel) rfl, g_mem 80 (by decide +kernel) rfl⟩
theorem ni_H : Cond.instantiable (g_C 2) (g_n 2) ∈ g_all ∧ Cond.initialized (g_C 2) ∈ g_all := ⟨g_mem 160 (by decide +kernel) rfl, g_mem 81 (by decide +kernel) rfl⟩
theorem ni_T : Cond.instantiable (g_C 3) (g_n 3) ∈ g_all ∧ Cond.initialized (g_C 3) ∈ g_all := ⟨g_mem 180 (by decide +kernel) rfl, g_mem 82 (by decide +kernel) rfl⟩
theorem ni_S : Cond.instantiable (g_C 4) (g_n 4) ∈ g_all ∧ Cond.initialized (g_C 4) ∈ g_all := ⟨g_mem 214 (by decide +kernel) rfl, g_mem 83 (by decide +kernel) rfl⟩
theorem ni_G : Cond.instantiable (g_C 5) (g_n 5) ∈ g_all ∧ Cond.initialized (g_C 5) ∈ g_all := ⟨g_mem 482 (by decide +kernel) rfl, g_mem 93 (by decide +kernel) rfl⟩
theorem ni_P : Cond.instantiable (g_C 6) (g_n 6) ∈ g_all ∧ Cond.initialized (g_C 6) ∈ g_all := ⟨g_mem 518 (by decide +kernel) rfl, g_mem 94 (by decide +kernel) rfl⟩
theorem ni_I : Cond.instantiable (g_C 7) (g_n 7) ∈ g_all ∧ Cond.initialized (g_C 7) ∈ g_all := ⟨g_mem 874 (by decide +kernel) rfl, g_mem 101 (by decide +kernel) rfl⟩
theorem ni_C : Cond.instantiable (g_C 8) (g_n 8) ∈ g_all ∧ Cond.initialized (g_C 8) ∈ g_all := ⟨g_mem 758 (by decide +kernel) rfl, g_mem 98 (by decide +kernel) rfl⟩
theorem ni_M : Cond.instantiable (g_C 9) (g_n 9) ∈ g_all ∧ Cond.initialized (g_C 9) ∈ g_all := ⟨g_mem 1285 (by decide +kernel) rfl, g_mem 84 (by decide +kernel) rfl⟩
theorem na_0 : Cond.arrayClass (g_ty 0) ∈ g_all := g_mem 158 (by decide +kernel) rfl
theorem na_1 : Cond.arrayClass (g_ty 1) ∈ g_all := g_mem 212 (by decide +kernel) rfl
theorem na_2 : Cond.arrayClass (g_ty 2) ∈ g_all := g_mem 1716 (by decide +kernel) rfl
theorem na_3 : Cond.arrayClass (g_ty 3) ∈ g_all := g_mem 1717 (by decide +kernel) rfl
theorem x_obj : Cond.instanceMethod Lib.objectInit ∈ g_all ∧ Cond.code Lib.objectInit ⟨#[0xb1]⟩ 1 none ∈ g_all := ⟨g_mem 110 (by decide +kernel) rfl, g_mem 111 (by decide +kernel) rfl⟩
theorem x_max : Cond.static Lib.Math.max.name ∈ g_all ∧ Cond.initialized "java/lang/Math" ∈ g_all ∧ Cond.code Lib.Math.max.name Lib.Math.max.code 2 (some .int) ∈ g_all := ⟨g_mem 691 (by decide +kernel) rfl, g_mem 91 (by decide +kernel) rfl, g_mem 692 (by decide +kernel) rfl⟩
theorem x_min : Cond.static Lib.Math.min.name ∈ g_all ∧ Cond.initialized "java/lang/Math" ∈ g_all ∧ Cond.code Lib.Math.min.name Lib.Math.min.code 2 (some .int) ∈ g_all := ⟨g_mem 355 (by decide +kernel) rfl, g_mem 91 (by decide +kernel) rfl, g_mem 356 (by decide +kernel) rfl⟩
theorem x_abs : Cond.static Lib.Math.abs.name ∈ g_all ∧ Cond.initialized "java/lang/Math" ∈ g_all ∧ Cond.code Lib.Math.abs.name Lib.Math.abs.code 1 (some .int) ∈ g_all := ⟨g_mem 344 (by decide +kernel) rfl, g_mem 91 (by decide +kernel) rfl, g_mem 345 (by decide +kernel) rfl⟩
theorem x_copy : Cond.native arraycopyName ∈ g_all ∧ Cond.static arraycopyName ∈ g_all ∧ Cond.initialized "java/lang/System" ∈ g_all := ⟨g_mem 359 (by decide +kernel) rfl, g_mem 358 (by decide +kernel) rfl, g_mem 92 (by decide +kernel) rfl⟩
set_option maxRecDepth 20000 in
theorem xt_IAE : ∀ x ∈ vx_atS "SkiPasses" 75 "java/lang/IllegalArgumentException" ["java/lang/RuntimeException", "java/lang/Exception"], x ∈ g_all ∨ x ∈ g_bads := by decide +kernel
set_option maxRecDepth 20000 in
theorem xg_IAE : ∀ x ∈ vx_atS "SkiPasses" 75 "java/lang/IllegalArgumentException" ["java/lang/RuntimeException", "java/lang/Exception"], vx_ot x = true := by decide +kernel
theorem xi_IAE : Cond.initialized "java/lang/IllegalArgumentException" ∈ g_all := g_mem 89 (by decide +kernel) rfl
set_option maxRecDepth 20000 in
theorem xt_ISE : ∀ x ∈ vx_atS "SkiPasses" 85 "java/lang/IllegalStateException" ["java/lang/RuntimeException", "java/lang/Exception"], x ∈ g_all ∨ x ∈ g_bads := by decide +kernel
set_option maxRecDepth 20000 in
theorem xg_ISE : ∀ x ∈ vx_atS "SkiPasses" 85 "java/lang/IllegalStateException" ["java/lang/RuntimeException", "java/lang/Exception"], vx_ot x = true := by decide +kernel
theorem xi_ISE : Cond.initialized "java/lang/IllegalStateException" ∈ g_all := g_mem 90 (by decide +kernel) rfl
set_option maxRecDepth 20000 in
theorem xt_IOB : ∀ x ∈ vx_atS "SkiPasses" 448 "java/lang/IndexOutOfBoundsException" ["java/lang/RuntimeException", "java/lang/Exception"], x ∈ g_all ∨ x ∈ g_bads := by decide +kernel
set_option maxRecDepth 20000 in
theorem xg_IOB : ∀ x ∈ vx_atS "SkiPasses" 448 "java/lang/IndexOutOfBoundsException" ["java/lang/RuntimeException", "java/lang/Exception"], vx_ot x = true := by decide +kernel
theorem xi_IOB : Cond.initialized "java/lang/IndexOutOfBoundsException" ∈ g_all := g_mem 95 (by decide +kernel) rfl
set_option maxRecDepth 20000 in
theorem xt_UOE : ∀ x ∈ vx_atS "SkiPasses" 241 "java/lang/UnsupportedOperationException" ["java/lang/RuntimeException", "java/lang/Exception"], x ∈ g_all ∨ x ∈ g_bads := by decide +kernel
set_option maxRecDepth 20000 in
theorem xg_UOE : ∀ x ∈ vx_atS "SkiPasses" 241 "java/lang/UnsupportedOperationException" ["java/lang/RuntimeException", "java/lang/Exception"], vx_ot x = true := by decide +kernel
theorem xi_UOE : Cond.initialized "java/lang/UnsupportedOperationException" ∈ g_all := g_mem 100 (by decide +kernel) rfl
theorem xi_NSE : Cond.initialized "java/util/NoSuchElementException" ∈ g_all := g_mem 102 (by decide +kernel) rfl
set_option maxRecDepth 20000 in
theorem xt_ARI : ∀ x ∈ vx_atS "SkiPasses" 385 "java/lang/ArithmeticException" ["java/lang/RuntimeException", "java/lang/Exception"], x ∈ g_all ∨ x ∈ g_bads := by decide +kernel
set_option maxRecDepth 20000 in
theorem xg_ARI : ∀ x ∈ vx_atS "SkiPasses" 385 "java/lang/ArithmeticException" ["java/lang/RuntimeException", "java/lang/Exception"], vx_ot x = true := by decide +kernel
theorem xi_ARI : Cond.initialized "java/lang/ArithmeticException" ∈ g_all := g_mem 103 (by decide +kernel) rfl
theorem xs_73 : ("SkiPasses", 73, "a number of the gate is out of range") ∈ g_strs := by decide +kernel
theorem xs_83 : ("SkiPasses", 83, "there is no room for a gate") ∈ g_strs := by decide +kernel
theorem xs_99 : ("SkiPasses", 99, "a number of the product is out of range") ∈ g_strs := by decide +kernel
theorem xs_104 : ("SkiPasses", 104, "there is no room for a product") ∈ g_strs := by decide +kernel
theorem xs_143 : ("SkiPasses", 143, "a gate has no such number") ∈ g_strs := by decide +kernel
theorem xs_446 : ("SkiPasses", 446, "there is no such gate") ∈ g_strs := by decide +kernel
theorem xs_173 : ("SkiPasses", 173, "a product has no such number") ∈ g_strs := by decide +kernel
theorem xs_452 : ("SkiPasses", 452, "there is no such product") ∈ g_strs := by decide +kernel
theorem xs_178 : ("SkiPasses", 178, "the number of minutes is out of range") ∈ g_strs := by decide +kernel
theorem xs_184 : ("SkiPasses", 184, "the clock would be beyond its end") ∈ g_strs := by decide +kernel
theorem xs_205 : ("SkiPasses", 205, "the system has no such number") ∈ g_strs := by decide +kernel
theorem xs_214 : ("SkiPasses", 214, "the day is out of range") ∈ g_strs := by decide +kernel
theorem xs_223 : ("SkiPasses", 223, "there is no room for a card") ∈ g_strs := by decide +kernel
theorem xs_239 : ("SkiPasses", 239, "the gate refuses the card") ∈ g_strs := by decide +kernel
theorem xs_457 : ("SkiPasses", 457, "there is no such card") ∈ g_strs := by decide +kernel
theorem xs_249 : ("SkiPasses", 249, "nothing was refused") ∈ g_strs := by decide +kernel
theorem xs_257 : ("SkiPasses", 257, "the chain has no such index") ∈ g_strs := by decide +kernel
theorem xs_266 : ("SkiPasses", 266, "the card is replaced or refunded") ∈ g_strs := by decide +kernel
theorem xs_275 : ("SkiPasses", 275, "the card can't be replaced") ∈ g_strs := by decide +kernel
theorem xs_313 : ("SkiPasses", 313, "a card has no such number") ∈ g_strs := by decide +kernel
theorem xs_319 : ("SkiPasses", 319, "there is no such ride") ∈ g_strs := by decide +kernel
theorem xs_459 : ("SkiPasses", 459, "there is no such partner") ∈ g_strs := by decide +kernel
theorem xs_359 : ("SkiPasses", 359, "a partner has no such number") ∈ g_strs := by decide +kernel
theorem xs_376 : ("SkiPasses", 376, "there is no such account") ∈ g_strs := by decide +kernel
theorem xs_383 : ("SkiPasses", 383, "there are no cards that are not replaced") ∈ g_strs := by decide +kernel
theorem xs_389 : ("SkiPasses", 389, "no minute was counted") ∈ g_strs := by decide +kernel
theorem xs_397 : ("SkiPasses", 397, "a character is out of range") ∈ g_strs := by decide +kernel
theorem xs_399 : ("SkiPasses", 399, "there is no room for the characters") ∈ g_strs := by decide +kernel
theorem xs_408 : ("SkiPasses", 408, "the text is malformed") ∈ g_strs := by decide +kernel
theorem xs_419 : ("SkiPasses", 419, "an order is refused") ∈ g_strs := by decide +kernel
theorem xs_427 : ("SkiPasses", 427, "no text was malformed") ∈ g_strs := by decide +kernel
theorem xs_429 : ("SkiPasses", 429, "no text was refused") ∈ g_strs := by decide +kernel
theorem xs_431 : ("SkiPasses", 431, "there is no change that can be undone") ∈ g_strs := by decide +kernel
theorem xs_439 : ("SkiPasses", 439, "there is no snapshot") ∈ g_strs := by decide +kernel
