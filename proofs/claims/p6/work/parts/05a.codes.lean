def mm_codeW (me : mm_Me) : Cond := if me.2.2.2.2.2.1 = [] then .code me.2.1 me.2.2.1 me.2.2.2.1 me.2.2.2.2.1 else .codeWith me.2.1 me.2.2.1 me.2.2.2.1 me.2.2.2.2.1 me.2.2.2.2.2.1
set_option maxRecDepth 100000 in
theorem mm_k0 : lw_tbl[204]? = some (.code yX5_init cX5_init 1 (none)) := rfl
set_option maxRecDepth 100000 in
theorem mm_k1 : lw_tbl[212]? = some (.code yX2_init cX2_init 1 (none)) := rfl
set_option maxRecDepth 100000 in
theorem mm_k2 : lw_tbl[227]? = some (.code yX3_init cX3_init 1 (none)) := rfl
set_option maxRecDepth 100000 in
theorem mm_k3 : lw_tbl[266]? = some (.code yX5_add cX5_add 2 (some .boolean)) := rfl
set_option maxRecDepth 100000 in
theorem mm_k4 : lw_tbl[269]? = some (.code yX0_exists cX0_exists 1 (some .boolean)) := rfl
set_option maxRecDepth 100000 in
theorem mm_k5 : lw_tbl[273]? = some (.code yX2_haveRoomFor cX2_haveRoomFor 2 (some .boolean)) := rfl
set_option maxRecDepth 100000 in
theorem mm_k6 : lw_tbl[277]? = some (.code yX2_append cX2_append 2 (none)) := rfl
set_option maxRecDepth 100000 in
theorem mm_k7 : lw_tbl[281]? = some (.code yX5_addAll cX5_addAll 6 (some .boolean)) := rfl
set_option maxRecDepth 100000 in
theorem mm_k8 : lw_tbl[284]? = some (.code yX5_byteOf cX5_byteOf 3 (some .int)) := rfl
set_option maxRecDepth 100000 in
theorem mm_k9 : lw_tbl[288]? = some (.codeWith yX5_build cX5_build 4 (some .int) [(32, 36, 39, 55)]) := rfl
set_option maxRecDepth 100000 in
theorem mm_k10 : lw_tbl[293]? = some (.code yX3_beginFor cX3_beginFor 3 (none)) := rfl
set_option maxRecDepth 100000 in
theorem mm_k11 : lw_tbl[300]? = some (.code yX3_makeRows cX3_makeRows 2 (none)) := rfl
set_option maxRecDepth 100000 in
theorem mm_k12 : lw_tbl[305]? = some (.code yX1_init cX1_init 3 (none)) := rfl
set_option maxRecDepth 100000 in
theorem mm_k13 : lw_tbl[310]? = some (.code yX2_kindAt cX2_kindAt 2 (some .int)) := rfl
set_option maxRecDepth 100000 in
theorem mm_k14 : lw_tbl[343]? = some (.code yX1_file cX1_file 3 (none)) := rfl
set_option maxRecDepth 100000 in
theorem mm_k15 : lw_tbl[347]? = some (.code yX1_expect cX1_expect 2 (some .int)) := rfl
set_option maxRecDepth 100000 in
theorem mm_k16 : lw_tbl[351]? = some (.code yX1_sees cX1_sees 2 (some .boolean)) := rfl
set_option maxRecDepth 100000 in
theorem mm_k17 : lw_tbl[355]? = some (.code yX1_refuse cX1_refuse 1 (none)) := rfl
set_option maxRecDepth 100000 in
theorem mm_k18 : lw_tbl[425]? = some (.code yX1_take cX1_take 2 (some .int)) := rfl
set_option maxRecDepth 100000 in
theorem mm_k19 : lw_tbl[429]? = some (.code yX1_name cX1_name 1 (none)) := rfl
set_option maxRecDepth 100000 in
theorem mm_k20 : lw_tbl[433]? = some (.code yX3_put cX3_put 7 (none)) := rfl
set_option maxRecDepth 100000 in
theorem mm_k21 : lw_tbl[437]? = some (.code yX3_spanPutAt cX3_spanPutAt 2 (some .int)) := rfl
set_option maxRecDepth 100000 in
theorem mm_k22 : lw_tbl[441]? = some (.code yX1_functionDecl cX1_functionDecl 3 (none)) := rfl
set_option maxRecDepth 100000 in
theorem mm_k23 : lw_tbl[445]? = some (.code yX1_receiver cX1_receiver 3 (none)) := rfl
set_option maxRecDepth 100000 in
theorem mm_k24 : lw_tbl[449]? = some (.code yX1_enter cX1_enter 2 (some .int)) := rfl
set_option maxRecDepth 100000 in
theorem mm_k25 : lw_tbl[453]? = some (.code yX1_openPart cX1_openPart 1 (none)) := rfl
set_option maxRecDepth 100000 in
theorem mm_k26 : lw_tbl[457]? = some (.code yX1_type cX1_type 1 (none)) := rfl
set_option maxRecDepth 100000 in
theorem mm_k27 : lw_tbl[460]? = some (.code yX0_beginsType cX0_beginsType 1 (some .boolean)) := rfl
set_option maxRecDepth 100000 in
theorem mm_k28 : lw_tbl[464]? = some (.code yX1_listType cX1_listType 4 (none)) := rfl
set_option maxRecDepth 100000 in
theorem mm_k29 : lw_tbl[468]? = some (.code yX1_expr cX1_expr 4 (none)) := rfl
set_option maxRecDepth 100000 in
theorem mm_k30 : lw_tbl[472]? = some (.code yX1_unary cX1_unary 5 (none)) := rfl
set_option maxRecDepth 100000 in
theorem mm_k31 : lw_tbl[476]? = some (.code yX1_seesUnarySign cX1_seesUnarySign 2 (some .boolean)) := rfl
set_option maxRecDepth 100000 in
theorem mm_k32 : lw_tbl[480]? = some (.code yX1_nextKind cX1_nextKind 1 (some .int)) := rfl
set_option maxRecDepth 100000 in
theorem mm_k33 : lw_tbl[483]? = some (.code yX0_isUnarySign cX0_isUnarySign 1 (some .boolean)) := rfl
set_option maxRecDepth 100000 in
theorem mm_k34 : lw_tbl[487]? = some (.code yX1_primary cX1_primary 4 (none)) := rfl
set_option maxRecDepth 100000 in
theorem mm_k35 : lw_tbl[491]? = some (.code yX1_operand cX1_operand 2 (none)) := rfl
set_option maxRecDepth 100000 in
theorem mm_k36 : lw_tbl[495]? = some (.code yX1_putLeaf cX1_putLeaf 2 (none)) := rfl
set_option maxRecDepth 100000 in
theorem mm_k37 : lw_tbl[499]? = some (.code yX1_elements cX1_elements 9 (none)) := rfl
set_option maxRecDepth 100000 in
theorem mm_k38 : lw_tbl[503]? = some (.code yX1_value cX1_value 1 (none)) := rfl
set_option maxRecDepth 100000 in
theorem mm_k39 : lw_tbl[507]? = some (.code yX1_accept cX1_accept 3 (some .boolean)) := rfl
set_option maxRecDepth 100000 in
theorem mm_k40 : lw_tbl[511]? = some (.code yX1_leave cX1_leave 2 (none)) := rfl
set_option maxRecDepth 100000 in
theorem mm_k41 : lw_tbl[515]? = some (.code yX1_closePart cX1_closePart 1 (none)) := rfl
set_option maxRecDepth 100000 in
theorem mm_k42 : lw_tbl[519]? = some (.code yX1_paren cX1_paren 3 (none)) := rfl
set_option maxRecDepth 100000 in
theorem mm_k43 : lw_tbl[523]? = some (.code yX1_functionOrType cX1_functionOrType 2 (none)) := rfl
set_option maxRecDepth 100000 in
theorem mm_k44 : lw_tbl[527]? = some (.code yX1_signature cX1_signature 3 (none)) := rfl
set_option maxRecDepth 100000 in
theorem mm_k45 : lw_tbl[531]? = some (.code yX1_params cX1_params 8 (none)) := rfl
set_option maxRecDepth 100000 in
theorem mm_k46 : lw_tbl[535]? = some (.code yX1_param cX1_param 8 (some .int)) := rfl
set_option maxRecDepth 100000 in
theorem mm_k47 : lw_tbl[539]? = some (.code yX1_block cX1_block 3 (none)) := rfl
set_option maxRecDepth 100000 in
theorem mm_k48 : lw_tbl[543]? = some (.code yX1_stmts cX1_stmts 4 (some .int)) := rfl
set_option maxRecDepth 100000 in
theorem mm_k49 : lw_tbl[547]? = some (.code yX1_stmt cX1_stmt 1 (some .boolean)) := rfl
set_option maxRecDepth 100000 in
theorem mm_k50 : lw_tbl[551]? = some (.code yX1_decl cX1_decl 4 (none)) := rfl
set_option maxRecDepth 100000 in
theorem mm_k51 : lw_tbl[555]? = some (.code yX1_group cX1_group 5 (some .int)) := rfl
set_option maxRecDepth 100000 in
theorem mm_k52 : lw_tbl[559]? = some (.code yX1_spec cX1_spec 2 (none)) := rfl
set_option maxRecDepth 100000 in
theorem mm_k53 : lw_tbl[563]? = some (.code yX1_constSpec cX1_constSpec 3 (none)) := rfl
set_option maxRecDepth 100000 in
theorem mm_k54 : lw_tbl[567]? = some (.code yX1_names cX1_names 3 (none)) := rfl
set_option maxRecDepth 100000 in
theorem mm_k55 : lw_tbl[571]? = some (.code yX1_exprs cX1_exprs 2 (none)) := rfl
set_option maxRecDepth 100000 in
theorem mm_k56 : lw_tbl[575]? = some (.code yX1_restOfExprs cX1_restOfExprs 4 (none)) := rfl
set_option maxRecDepth 100000 in
theorem mm_k57 : lw_tbl[579]? = some (.code yX1_typeSpec cX1_typeSpec 2 (none)) := rfl
set_option maxRecDepth 100000 in
theorem mm_k58 : lw_tbl[583]? = some (.code yX1_varSpec cX1_varSpec 3 (none)) := rfl
set_option maxRecDepth 100000 in
theorem mm_k59 : lw_tbl[586]? = some (.code yX1_groupWhat cX1_groupWhat 1 (some .int)) := rfl
set_option maxRecDepth 100000 in
theorem mm_k60 : lw_tbl[590]? = some (.code yX1_ifStmt cX1_ifStmt 4 (none)) := rfl
set_option maxRecDepth 100000 in
theorem mm_k61 : lw_tbl[594]? = some (.code yX1_opening cX1_opening 7 (some .int)) := rfl
set_option maxRecDepth 100000 in
theorem mm_k62 : lw_tbl[598]? = some (.code yX1_simple cX1_simple 6 (some .int)) := rfl
set_option maxRecDepth 100000 in
theorem mm_k63 : lw_tbl[602]? = some (.code yX1_putGuard cX1_putGuard 2 (none)) := rfl
set_option maxRecDepth 100000 in
theorem mm_k64 : lw_tbl[606]? = some (.code yX1_isNameFrom cX1_isNameFrom 2 (some .boolean)) := rfl
set_option maxRecDepth 100000 in
theorem mm_k65 : lw_tbl[610]? = some (.code yX1_assign cX1_assign 4 (some .int)) := rfl
set_option maxRecDepth 100000 in
theorem mm_k66 : lw_tbl[614]? = some (.code yX1_define cX1_define 5 (some .int)) := rfl
set_option maxRecDepth 100000 in
theorem mm_k67 : lw_tbl[618]? = some (.code yX1_behindExpr cX1_behindExpr 3 (some .int)) := rfl
set_option maxRecDepth 100000 in
theorem mm_k68 : lw_tbl[621]? = some (.code yX0_isOpAssign cX0_isOpAssign 1 (some .boolean)) := rfl
set_option maxRecDepth 100000 in
theorem mm_k69 : lw_tbl[625]? = some (.code yX1_elseBranch cX1_elseBranch 1 (none)) := rfl
set_option maxRecDepth 100000 in
theorem mm_k70 : lw_tbl[629]? = some (.code yX1_switchStmt cX1_switchStmt 6 (none)) := rfl
set_option maxRecDepth 100000 in
theorem mm_k71 : lw_tbl[633]? = some (.code yX1_tag cX1_tag 2 (some .boolean)) := rfl
set_option maxRecDepth 100000 in
theorem mm_k72 : lw_tbl[637]? = some (.code yX1_clauses cX1_clauses 3 (some .int)) := rfl
set_option maxRecDepth 100000 in
theorem mm_k73 : lw_tbl[641]? = some (.code yX1_caseClause cX1_caseClause 3 (none)) := rfl
set_option maxRecDepth 100000 in
theorem mm_k74 : lw_tbl[645]? = some (.code yX1_types cX1_types 3 (none)) := rfl
set_option maxRecDepth 100000 in
theorem mm_k75 : lw_tbl[649]? = some (.code yX1_wholeSimple cX1_wholeSimple 3 (none)) := rfl
set_option maxRecDepth 100000 in
theorem mm_k76 : lw_tbl[653]? = some (.code yX1_clauseBody cX1_clauseBody 2 (none)) := rfl
set_option maxRecDepth 100000 in
theorem mm_k77 : lw_tbl[657]? = some (.code yX1_defaultClause cX1_defaultClause 3 (none)) := rfl
set_option maxRecDepth 100000 in
theorem mm_k78 : lw_tbl[661]? = some (.code yX1_selectStmt cX1_selectStmt 2 (none)) := rfl
set_option maxRecDepth 100000 in
theorem mm_k79 : lw_tbl[665]? = some (.code yX1_forStmt cX1_forStmt 4 (none)) := rfl
set_option maxRecDepth 100000 in
theorem mm_k80 : lw_tbl[669]? = some (.code yX1_forHead cX1_forHead 2 (some .int)) := rfl
set_option maxRecDepth 100000 in
theorem mm_k81 : lw_tbl[673]? = some (.code yX1_range cX1_range 3 (none)) := rfl
set_option maxRecDepth 100000 in
theorem mm_k82 : lw_tbl[677]? = some (.code yX1_restOfForHead cX1_restOfForHead 3 (none)) := rfl
set_option maxRecDepth 100000 in
theorem mm_k83 : lw_tbl[681]? = some (.code yX1_wordStmt cX1_wordStmt 1 (some .boolean)) := rfl
set_option maxRecDepth 100000 in
theorem mm_k84 : lw_tbl[685]? = some (.code yX1_startStmt cX1_startStmt 3 (none)) := rfl
set_option maxRecDepth 100000 in
theorem mm_k85 : lw_tbl[689]? = some (.code yX1_returnStmt cX1_returnStmt 3 (none)) := rfl
set_option maxRecDepth 100000 in
theorem mm_k86 : lw_tbl[692]? = some (.code yX0_beginsExpr cX0_beginsExpr 1 (some .boolean)) := rfl
set_option maxRecDepth 100000 in
theorem mm_k87 : lw_tbl[698]? = some (.code yX1_jumpStmt cX1_jumpStmt 4 (none)) := rfl
set_option maxRecDepth 100000 in
theorem mm_k88 : lw_tbl[702]? = some (.code yX1_simpleStmt cX1_simpleStmt 1 (some .boolean)) := rfl
set_option maxRecDepth 100000 in
theorem mm_k89 : lw_tbl[706]? = some (.code yX1_labeledStmt cX1_labeledStmt 3 (none)) := rfl
set_option maxRecDepth 100000 in
theorem mm_k90 : lw_tbl[710]? = some (.code yX1_countedArrayType cX1_countedArrayType 2 (none)) := rfl
set_option maxRecDepth 100000 in
theorem mm_k91 : lw_tbl[714]? = some (.code yX1_behindOperand cX1_behindOperand 2 (some .boolean)) := rfl
set_option maxRecDepth 100000 in
theorem mm_k92 : lw_tbl[718]? = some (.code yX1_dot cX1_dot 4 (some .boolean)) := rfl
set_option maxRecDepth 100000 in
theorem mm_k93 : lw_tbl[722]? = some (.code yX1_index cX1_index 5 (none)) := rfl
set_option maxRecDepth 100000 in
theorem mm_k94 : lw_tbl[726]? = some (.code yX1_upperBounds cX1_upperBounds 1 (some .int)) := rfl
set_option maxRecDepth 100000 in
theorem mm_k95 : lw_tbl[730]? = some (.code yX1_call cX1_call 6 (none)) := rfl
set_option maxRecDepth 100000 in
theorem mm_k96 : lw_tbl[733]? = some (.code yX0_binding cX0_binding 1 (some .int)) := rfl
set_option maxRecDepth 100000 in
theorem mm_k97 : lw_tbl[737]? = some (.code yX1_putWaiting cX1_putWaiting 4 (none)) := rfl
set_option maxRecDepth 100000 in
theorem mm_k98 : lw_tbl[741]? = some (.code yX1_await cX1_await 2 (none)) := rfl
set_option maxRecDepth 100000 in
theorem mm_k99 : lw_tbl[745]? = some (.code yX1_mapType cX1_mapType 2 (none)) := rfl
set_option maxRecDepth 100000 in
theorem mm_k100 : lw_tbl[749]? = some (.code yX1_chanType cX1_chanType 3 (none)) := rfl
set_option maxRecDepth 100000 in
theorem mm_k101 : lw_tbl[753]? = some (.code yX1_receiveChanType cX1_receiveChanType 2 (none)) := rfl
set_option maxRecDepth 100000 in
theorem mm_k102 : lw_tbl[757]? = some (.code yX1_pointerType cX1_pointerType 2 (none)) := rfl
set_option maxRecDepth 100000 in
theorem mm_k103 : lw_tbl[761]? = some (.code yX1_structType cX1_structType 5 (none)) := rfl
set_option maxRecDepth 100000 in
theorem mm_k104 : lw_tbl[765]? = some (.code yX1_functionType cX1_functionType 2 (none)) := rfl
set_option maxRecDepth 100000 in
theorem mm_k105 : lw_tbl[769]? = some (.code yX1_interfaceType cX1_interfaceType 5 (none)) := rfl
set_option maxRecDepth 100000 in
theorem mm_k106 : lw_tbl[772]? = some (.code yX0_beginsDecl cX0_beginsDecl 1 (some .boolean)) := rfl
set_option maxRecDepth 100000 in
theorem mm_k107 : lw_tbl[776]? = some (.code yX3_number cX3_number 2 (none)) := rfl
set_option maxRecDepth 100000 in
theorem mm_k108 : lw_tbl[780]? = some (.code yX3_numberChildren cX3_numberChildren 8 (none)) := rfl
set_option maxRecDepth 100000 in
theorem mm_k109 : lw_tbl[784]? = some (.code yX3_spanOf cX3_spanOf 2 (some .int)) := rfl
set_option maxRecDepth 100000 in
theorem mm_k110 : lw_tbl[788]? = some (.code yX3_placeOf cX3_placeOf 2 (some .int)) := rfl
set_option maxRecDepth 100000 in
theorem mm_k111 : lw_tbl[792]? = some (.code yX3_read cX3_read 3 (some .int)) := rfl
set_option maxRecDepth 100000 in
theorem mm_k112 : lw_tbl[796]? = some (.code yX3_childrenOf cX3_childrenOf 2 (some .int)) := rfl
set_option maxRecDepth 100000 in
theorem mm_k113 : lw_tbl[800]? = some (.code yX5_size cX5_size 1 (some .int)) := rfl
set_option maxRecDepth 100000 in
theorem mm_k114 : lw_tbl[804]? = some (.code yX5_nodes cX5_nodes 1 (some .int)) := rfl
set_option maxRecDepth 100000 in
theorem mm_k115 : lw_tbl[807]? = some (.codeWith yL_node cL_node 5 (some .int) [(0, 10, 13, 13)]) := rfl
set_option maxRecDepth 100000 in
theorem mm_k116 : lw_tbl[812]? = some (.code yX5_node cX5_node 3 (some .int)) := rfl
set_option maxRecDepth 100000 in
theorem mm_k117 : lw_tbl[816]? = some (.code yX3_has cX3_has 2 (some .boolean)) := rfl
set_option maxRecDepth 100000 in
theorem mm_k118 : lw_tbl[836]? = some (.code yX3_whatOf cX3_whatOf 2 (some .int)) := rfl
set_option maxRecDepth 100000 in
theorem mm_k119 : lw_tbl[840]? = some (.code yX3_tokenOf cX3_tokenOf 2 (some .int)) := rfl
set_option maxRecDepth 100000 in
theorem mm_k120 : lw_tbl[846]? = some (.code yX3_parentOf cX3_parentOf 2 (some .int)) := rfl
set_option maxRecDepth 100000 in
theorem mm_k121 : lw_tbl[851]? = some (.codeWith yL_child cL_child 5 (some .int) [(0, 10, 13, 13)]) := rfl
set_option maxRecDepth 100000 in
theorem mm_k122 : lw_tbl[855]? = some (.code yX5_child cX5_child 5 (some .int)) := rfl
set_option maxRecDepth 100000 in
theorem mm_k123 : lw_tbl[861]? = some (.code yX6_init cX6_init 1 (none)) := rfl
set_option maxRecDepth 100000 in
theorem mm_k124 : lw_tbl[947]? = some (.code yX6_add cX6_add 2 (some .boolean)) := rfl
set_option maxRecDepth 100000 in
theorem mm_k125 : lw_tbl[950]? = some (.code yX6_isKind cX6_isKind 1 (some .boolean)) := rfl
set_option maxRecDepth 100000 in
theorem mm_k126 : lw_tbl[954]? = some (.code yX6_addAll cX6_addAll 6 (some .boolean)) := rfl
set_option maxRecDepth 100000 in
theorem mm_k127 : lw_tbl[959]? = some (.code yX6_size cX6_size 1 (some .int)) := rfl
set_option maxRecDepth 100000 in
theorem mm_k128 : lw_tbl[963]? = some (.code yX6_build cX6_build 2 (some .int)) := rfl
set_option maxRecDepth 100000 in
theorem mm_k129 : lw_tbl[967]? = some (.code yX6_child cX6_child 4 (some .int)) := rfl
set_option maxRecDepth 100000 in
theorem mm_k130 : lw_tbl[971]? = some (.code yX6_pass cX6_pass 2 (none)) := rfl
set_option maxRecDepth 100000 in
theorem mm_k131 : lw_tbl[975]? = some (.code yX6_look cX6_look 1 (some .int)) := rfl
set_option maxRecDepth 100000 in
theorem mm_k132 : lw_tbl[979]? = some (.code yX6_error cX6_error 1 (none)) := rfl
set_option maxRecDepth 100000 in
theorem mm_k133 : lw_tbl[983]? = some (.code yX6_name cX6_name 3 (some .int)) := rfl
set_option maxRecDepth 100000 in
theorem mm_k134 : lw_tbl[987]? = some (.code yX6_push cX6_push 4 (none)) := rfl
set_option maxRecDepth 100000 in
theorem mm_k135 : lw_tbl[991]? = some (.code yX6_step cX6_step 4 (none)) := rfl
set_option maxRecDepth 100000 in
theorem mm_k136 : lw_tbl[995]? = some (.code yX6_binary cX6_binary 6 (none)) := rfl
set_option maxRecDepth 100000 in
theorem mm_k137 : lw_tbl[998]? = some (.code yX6_strength cX6_strength 1 (some .int)) := rfl
set_option maxRecDepth 100000 in
theorem mm_k138 : lw_tbl[1002]? = some (.code yX6_wrap cX6_wrap 8 (some .int)) := rfl
set_option maxRecDepth 100000 in
theorem mm_k139 : lw_tbl[1006]? = some (.code yX6_expression cX6_expression 4 (none)) := rfl
set_option maxRecDepth 100000 in
theorem mm_k140 : lw_tbl[1010]? = some (.code yX6_unary cX6_unary 5 (none)) := rfl
set_option maxRecDepth 100000 in
theorem mm_k141 : lw_tbl[1013]? = some (.code yX6_isUnary cX6_isUnary 1 (some .boolean)) := rfl
set_option maxRecDepth 100000 in
theorem mm_k142 : lw_tbl[1017]? = some (.code yX6_ahead cX6_ahead 1 (some .int)) := rfl
set_option maxRecDepth 100000 in
theorem mm_k143 : lw_tbl[1021]? = some (.code yX6_more cX6_more 1 (none)) := rfl
set_option maxRecDepth 100000 in
theorem mm_k144 : lw_tbl[1025]? = some (.code yX6_operand cX6_operand 5 (none)) := rfl
set_option maxRecDepth 100000 in
theorem mm_k145 : lw_tbl[1029]? = some (.code yX6_postfix cX6_postfix 5 (none)) := rfl
set_option maxRecDepth 100000 in
theorem mm_k146 : lw_tbl[1033]? = some (.code yX6_dot cX6_dot 5 (none)) := rfl
set_option maxRecDepth 100000 in
theorem mm_k147 : lw_tbl[1036]? = some (.code yX6_has cX6_has 2 (some .boolean)) := rfl
set_option maxRecDepth 100000 in
theorem mm_k148 : lw_tbl[1040]? = some (.code yX6_slice cX6_slice 2 (none)) := rfl
set_option maxRecDepth 100000 in
theorem mm_k149 : lw_tbl[1044]? = some (.code yX6_value_ cX6_value_ 4 (none)) := rfl
set_option maxRecDepth 100000 in
theorem mm_k150 : lw_tbl[1048]? = some (.code yX6_literal cX6_literal 8 (none)) := rfl
set_option maxRecDepth 100000 in
theorem mm_k151 : lw_tbl[1052]? = some (.code yX6_args cX6_args 2 (none)) := rfl
set_option maxRecDepth 100000 in
theorem mm_k152 : lw_tbl[1056]? = some (.code yX6_argsMore cX6_argsMore 2 (none)) := rfl
set_option maxRecDepth 100000 in
theorem mm_k153 : lw_tbl[1060]? = some (.code yX6_index cX6_index 2 (none)) := rfl
set_option maxRecDepth 100000 in
theorem mm_k154 : lw_tbl[1064]? = some (.code yX6_sliced cX6_sliced 2 (none)) := rfl
set_option maxRecDepth 100000 in
theorem mm_k155 : lw_tbl[1068]? = some (.code yX6_sliceMore cX6_sliceMore 2 (none)) := rfl
set_option maxRecDepth 100000 in
theorem mm_k156 : lw_tbl[1072]? = some (.code yX6_elements cX6_elements 3 (none)) := rfl
set_option maxRecDepth 100000 in
theorem mm_k157 : lw_tbl[1076]? = some (.code yX6_elementsMore cX6_elementsMore 2 (none)) := rfl
set_option maxRecDepth 100000 in
theorem mm_k158 : lw_tbl[1080]? = some (.code yX6_keyed cX6_keyed 2 (none)) := rfl
set_option maxRecDepth 100000 in
theorem mm_k159 : lw_tbl[1084]? = some (.code yX6_value cX6_value 3 (none)) := rfl
set_option maxRecDepth 100000 in
theorem mm_k160 : lw_tbl[1088]? = some (.code yX6_typing cX6_typing 4 (none)) := rfl
set_option maxRecDepth 100000 in
theorem mm_k161 : lw_tbl[1092]? = some (.code yX6_type cX6_type 5 (none)) := rfl
set_option maxRecDepth 100000 in
theorem mm_k162 : lw_tbl[1095]? = some (.code yX6_beginsType cX6_beginsType 1 (some .boolean)) := rfl
set_option maxRecDepth 100000 in
theorem mm_k163 : lw_tbl[1099]? = some (.code yX6_array cX6_array 4 (none)) := rfl
set_option maxRecDepth 100000 in
theorem mm_k164 : lw_tbl[1103]? = some (.code yX6_functionTail cX6_functionTail 2 (none)) := rfl
set_option maxRecDepth 100000 in
theorem mm_k165 : lw_tbl[1107]? = some (.code yX6_block cX6_block 3 (none)) := rfl
set_option maxRecDepth 100000 in
theorem mm_k166 : lw_tbl[1111]? = some (.code yX6_signature cX6_signature 3 (none)) := rfl
set_option maxRecDepth 100000 in
theorem mm_k167 : lw_tbl[1115]? = some (.code yX6_result cX6_result 3 (none)) := rfl
set_option maxRecDepth 100000 in
theorem mm_k168 : lw_tbl[1119]? = some (.code yX6_params cX6_params 3 (none)) := rfl
set_option maxRecDepth 100000 in
theorem mm_k169 : lw_tbl[1123]? = some (.code yX6_param cX6_param 7 (none)) := rfl
set_option maxRecDepth 100000 in
theorem mm_k170 : lw_tbl[1127]? = some (.code yX6_paramMore cX6_paramMore 3 (none)) := rfl
set_option maxRecDepth 100000 in
theorem mm_k171 : lw_tbl[1131]? = some (.code yX6_fields cX6_fields 3 (none)) := rfl
set_option maxRecDepth 100000 in
theorem mm_k172 : lw_tbl[1135]? = some (.code yX6_fieldsMore cX6_fieldsMore 3 (none)) := rfl
set_option maxRecDepth 100000 in
theorem mm_k173 : lw_tbl[1139]? = some (.code yX6_methods cX6_methods 3 (none)) := rfl
set_option maxRecDepth 100000 in
theorem mm_k174 : lw_tbl[1143]? = some (.code yX6_declaring cX6_declaring 4 (none)) := rfl
set_option maxRecDepth 100000 in
theorem mm_k175 : lw_tbl[1147]? = some (.code yX6_names cX6_names 3 (none)) := rfl
set_option maxRecDepth 100000 in
theorem mm_k176 : lw_tbl[1151]? = some (.code yX6_namesMore cX6_namesMore 2 (none)) := rfl
set_option maxRecDepth 100000 in
theorem mm_k177 : lw_tbl[1155]? = some (.code yX6_exprsMore cX6_exprsMore 3 (none)) := rfl
set_option maxRecDepth 100000 in
theorem mm_k178 : lw_tbl[1159]? = some (.code yX6_spec cX6_spec 4 (none)) := rfl
set_option maxRecDepth 100000 in
theorem mm_k179 : lw_tbl[1163]? = some (.code yX6_specs cX6_specs 3 (none)) := rfl
set_option maxRecDepth 100000 in
theorem mm_k180 : lw_tbl[1167]? = some (.code yX6_specsMore cX6_specsMore 3 (none)) := rfl
set_option maxRecDepth 100000 in
theorem mm_k181 : lw_tbl[1171]? = some (.code yX6_constRest cX6_constRest 2 (none)) := rfl
set_option maxRecDepth 100000 in
theorem mm_k182 : lw_tbl[1175]? = some (.code yX6_valued cX6_valued 3 (none)) := rfl
set_option maxRecDepth 100000 in
theorem mm_k183 : lw_tbl[1179]? = some (.code yX6_exprs cX6_exprs 4 (none)) := rfl
set_option maxRecDepth 100000 in
theorem mm_k184 : lw_tbl[1183]? = some (.code yX6_varRest cX6_varRest 2 (none)) := rfl
set_option maxRecDepth 100000 in
theorem mm_k185 : lw_tbl[1187]? = some (.code yX6_statements cX6_statements 3 (none)) := rfl
set_option maxRecDepth 100000 in
theorem mm_k186 : lw_tbl[1190]? = some (.code yX6_beginsStatement cX6_beginsStatement 1 (some .boolean)) := rfl
set_option maxRecDepth 100000 in
theorem mm_k187 : lw_tbl[1193]? = some (.code yX6_beginsExpr cX6_beginsExpr 1 (some .boolean)) := rfl
set_option maxRecDepth 100000 in
theorem mm_k188 : lw_tbl[1197]? = some (.code yX6_statement cX6_statement 4 (none)) := rfl
set_option maxRecDepth 100000 in
theorem mm_k189 : lw_tbl[1201]? = some (.code yX6_declaration cX6_declaration 4 (none)) := rfl
set_option maxRecDepth 100000 in
theorem mm_k190 : lw_tbl[1205]? = some (.code yX6_ifs cX6_ifs 3 (none)) := rfl
set_option maxRecDepth 100000 in
theorem mm_k191 : lw_tbl[1209]? = some (.code yX6_loop cX6_loop 5 (none)) := rfl
set_option maxRecDepth 100000 in
theorem mm_k192 : lw_tbl[1213]? = some (.code yX6_condition cX6_condition 3 (none)) := rfl
set_option maxRecDepth 100000 in
theorem mm_k193 : lw_tbl[1217]? = some (.code yX6_choice cX6_choice 3 (none)) := rfl
set_option maxRecDepth 100000 in
theorem mm_k194 : lw_tbl[1221]? = some (.code yX6_body cX6_body 3 (none)) := rfl
set_option maxRecDepth 100000 in
theorem mm_k195 : lw_tbl[1225]? = some (.code yX6_second cX6_second 2 (none)) := rfl
set_option maxRecDepth 100000 in
theorem mm_k196 : lw_tbl[1229]? = some (.code yX6_leaving cX6_leaving 4 (none)) := rfl
set_option maxRecDepth 100000 in
theorem mm_k197 : lw_tbl[1233]? = some (.code yX6_statementsMore cX6_statementsMore 2 (none)) := rfl
set_option maxRecDepth 100000 in
theorem mm_k198 : lw_tbl[1237]? = some (.code yX6_stating cX6_stating 4 (none)) := rfl
set_option maxRecDepth 100000 in
theorem mm_k199 : lw_tbl[1241]? = some (.code yX6_simple cX6_simple 3 (none)) := rfl
set_option maxRecDepth 100000 in
theorem mm_k200 : lw_tbl[1245]? = some (.code yX6_simpleRest cX6_simpleRest 9 (none)) := rfl
set_option maxRecDepth 100000 in
theorem mm_k201 : lw_tbl[1249]? = some (.code yX6_assign cX6_assign 4 (none)) := rfl
set_option maxRecDepth 100000 in
theorem mm_k202 : lw_tbl[1253]? = some (.code yX6_ranges cX6_ranges 4 (some .boolean)) := rfl
set_option maxRecDepth 100000 in
theorem mm_k203 : lw_tbl[1257]? = some (.code yX6_right cX6_right 5 (none)) := rfl
set_option maxRecDepth 100000 in
theorem mm_k204 : lw_tbl[1261]? = some (.code yX6_define cX6_define 6 (none)) := rfl
set_option maxRecDepth 100000 in
theorem mm_k205 : lw_tbl[1265]? = some (.code yX6_listRest cX6_listRest 6 (none)) := rfl
set_option maxRecDepth 100000 in
theorem mm_k206 : lw_tbl[1269]? = some (.code yX6_ifRest cX6_ifRest 2 (none)) := rfl
set_option maxRecDepth 100000 in
theorem mm_k207 : lw_tbl[1273]? = some (.code yX6_unwrap cX6_unwrap 6 (none)) := rfl
set_option maxRecDepth 100000 in
theorem mm_k208 : lw_tbl[1277]? = some (.code yX6_ifElse cX6_ifElse 2 (none)) := rfl
set_option maxRecDepth 100000 in
theorem mm_k209 : lw_tbl[1281]? = some (.code yX6_forRest cX6_forRest 2 (none)) := rfl
set_option maxRecDepth 100000 in
theorem mm_k210 : lw_tbl[1285]? = some (.code yX6_forPost cX6_forPost 4 (none)) := rfl
set_option maxRecDepth 100000 in
theorem mm_k211 : lw_tbl[1289]? = some (.code yX6_switchRest cX6_switchRest 3 (none)) := rfl
set_option maxRecDepth 100000 in
theorem mm_k212 : lw_tbl[1293]? = some (.code yX6_clauses cX6_clauses 6 (none)) := rfl
set_option maxRecDepth 100000 in
theorem mm_k213 : lw_tbl[1297]? = some (.code yX6_clause cX6_clause 3 (none)) := rfl
set_option maxRecDepth 100000 in
theorem mm_k214 : lw_tbl[1301]? = some (.code yX6_types cX6_types 2 (none)) := rfl
set_option maxRecDepth 100000 in
theorem mm_k215 : lw_tbl[1305]? = some (.code yX6_tops cX6_tops 3 (none)) := rfl
set_option maxRecDepth 100000 in
theorem mm_k216 : lw_tbl[1309]? = some (.code yX6_function cX6_function 5 (none)) := rfl
set_option maxRecDepth 100000 in
theorem mm_k217 : lw_tbl[1313]? = some (.code yX6_guarded cX6_guarded 6 (none)) := rfl
set_option maxRecDepth 100000 in
theorem mm_k218 : lw_tbl[1317]? = some (.code yX6_numberAll cX6_numberAll 3 (none)) := rfl
set_option maxRecDepth 100000 in
theorem mm_k219 : lw_tbl[1321]? = some (.code yX6_nodes cX6_nodes 1 (some .int)) := rfl
set_option maxRecDepth 100000 in
theorem mm_k220 : lw_tbl[1325]? = some (.code yX6_node cX6_node 6 (some .int)) := rfl
set_option maxRecDepth 100000 in
theorem mm_k221 : lw_tbl[1329]? = some (.code yX6_fail cX6_fail 1 (some .int)) := rfl
set_option maxRecDepth 100000 in
theorem mm_k222 : lw_tbl[1333]? = some (.code yX6_child_ cX6_child_ 5 (some .int)) := rfl
theorem mm_kk0 : ∀ me ∈ mm_MT0, mm_codeW me ∈ lw_tbl := List.forall_mem_cons.mpr ⟨List.mem_of_getElem? mm_k0, List.forall_mem_cons.mpr ⟨List.mem_of_getElem? mm_k1, List.forall_mem_cons.mpr ⟨List.mem_of_getElem? mm_k2, List.forall_mem_cons.mpr ⟨List.mem_of_getElem? mm_k3, List.forall_mem_cons.mpr ⟨List.mem_of_getElem? mm_k4, List.forall_mem_cons.mpr ⟨List.mem_of_getElem? mm_k5, List.forall_mem_cons.mpr ⟨List.mem_of_getElem? mm_k6, List.forall_mem_cons.mpr ⟨List.mem_of_getElem? mm_k7, List.forall_mem_cons.mpr ⟨List.mem_of_getElem? mm_k8, List.forall_mem_cons.mpr ⟨List.mem_of_getElem? mm_k9, List.forall_mem_cons.mpr ⟨List.mem_of_getElem? mm_k10, List.forall_mem_cons.mpr ⟨List.mem_of_getElem? mm_k11, List.forall_mem_cons.mpr ⟨List.mem_of_getElem? mm_k12, List.forall_mem_cons.mpr ⟨List.mem_of_getElem? mm_k13, List.forall_mem_cons.mpr ⟨List.mem_of_getElem? mm_k14, List.forall_mem_cons.mpr ⟨List.mem_of_getElem? mm_k15, List.forall_mem_cons.mpr ⟨List.mem_of_getElem? mm_k16, List.forall_mem_cons.mpr ⟨List.mem_of_getElem? mm_k17, List.forall_mem_cons.mpr ⟨List.mem_of_getElem? mm_k18, List.forall_mem_cons.mpr ⟨List.mem_of_getElem? mm_k19, List.forall_mem_cons.mpr ⟨List.mem_of_getElem? mm_k20, List.forall_mem_cons.mpr ⟨List.mem_of_getElem? mm_k21, List.forall_mem_cons.mpr ⟨List.mem_of_getElem? mm_k22, List.forall_mem_cons.mpr ⟨List.mem_of_getElem? mm_k23, List.forall_mem_cons.mpr ⟨List.mem_of_getElem? mm_k24, List.forall_mem_cons.mpr ⟨List.mem_of_getElem? mm_k25, List.forall_mem_cons.mpr ⟨List.mem_of_getElem? mm_k26, List.forall_mem_cons.mpr ⟨List.mem_of_getElem? mm_k27, List.forall_mem_cons.mpr ⟨List.mem_of_getElem? mm_k28, List.forall_mem_cons.mpr ⟨List.mem_of_getElem? mm_k29, List.forall_mem_cons.mpr ⟨List.mem_of_getElem? mm_k30, List.forall_mem_cons.mpr ⟨List.mem_of_getElem? mm_k31, List.forall_mem_cons.mpr ⟨List.mem_of_getElem? mm_k32, List.forall_mem_cons.mpr ⟨List.mem_of_getElem? mm_k33, List.forall_mem_cons.mpr ⟨List.mem_of_getElem? mm_k34, List.forall_mem_cons.mpr ⟨List.mem_of_getElem? mm_k35, List.forall_mem_cons.mpr ⟨List.mem_of_getElem? mm_k36, List.forall_mem_cons.mpr ⟨List.mem_of_getElem? mm_k37, List.forall_mem_cons.mpr ⟨List.mem_of_getElem? mm_k38, List.forall_mem_cons.mpr ⟨List.mem_of_getElem? mm_k39, fun _ h => absurd h List.not_mem_nil⟩⟩⟩⟩⟩⟩⟩⟩⟩⟩⟩⟩⟩⟩⟩⟩⟩⟩⟩⟩⟩⟩⟩⟩⟩⟩⟩⟩⟩⟩⟩⟩⟩⟩⟩⟩⟩⟩⟩⟩
theorem mm_kk1 : ∀ me ∈ mm_MT1, mm_codeW me ∈ lw_tbl := List.forall_mem_cons.mpr ⟨List.mem_of_getElem? mm_k40, List.forall_mem_cons.mpr ⟨List.mem_of_getElem? mm_k41, List.forall_mem_cons.mpr ⟨List.mem_of_getElem? mm_k42, List.forall_mem_cons.mpr ⟨List.mem_of_getElem? mm_k43, List.forall_mem_cons.mpr ⟨List.mem_of_getElem? mm_k44, List.forall_mem_cons.mpr ⟨List.mem_of_getElem? mm_k45, List.forall_mem_cons.mpr ⟨List.mem_of_getElem? mm_k46, List.forall_mem_cons.mpr ⟨List.mem_of_getElem? mm_k47, List.forall_mem_cons.mpr ⟨List.mem_of_getElem? mm_k48, List.forall_mem_cons.mpr ⟨List.mem_of_getElem? mm_k49, List.forall_mem_cons.mpr ⟨List.mem_of_getElem? mm_k50, List.forall_mem_cons.mpr ⟨List.mem_of_getElem? mm_k51, List.forall_mem_cons.mpr ⟨List.mem_of_getElem? mm_k52, List.forall_mem_cons.mpr ⟨List.mem_of_getElem? mm_k53, List.forall_mem_cons.mpr ⟨List.mem_of_getElem? mm_k54, List.forall_mem_cons.mpr ⟨List.mem_of_getElem? mm_k55, List.forall_mem_cons.mpr ⟨List.mem_of_getElem? mm_k56, List.forall_mem_cons.mpr ⟨List.mem_of_getElem? mm_k57, List.forall_mem_cons.mpr ⟨List.mem_of_getElem? mm_k58, List.forall_mem_cons.mpr ⟨List.mem_of_getElem? mm_k59, List.forall_mem_cons.mpr ⟨List.mem_of_getElem? mm_k60, List.forall_mem_cons.mpr ⟨List.mem_of_getElem? mm_k61, List.forall_mem_cons.mpr ⟨List.mem_of_getElem? mm_k62, List.forall_mem_cons.mpr ⟨List.mem_of_getElem? mm_k63, List.forall_mem_cons.mpr ⟨List.mem_of_getElem? mm_k64, List.forall_mem_cons.mpr ⟨List.mem_of_getElem? mm_k65, List.forall_mem_cons.mpr ⟨List.mem_of_getElem? mm_k66, List.forall_mem_cons.mpr ⟨List.mem_of_getElem? mm_k67, List.forall_mem_cons.mpr ⟨List.mem_of_getElem? mm_k68, List.forall_mem_cons.mpr ⟨List.mem_of_getElem? mm_k69, List.forall_mem_cons.mpr ⟨List.mem_of_getElem? mm_k70, List.forall_mem_cons.mpr ⟨List.mem_of_getElem? mm_k71, List.forall_mem_cons.mpr ⟨List.mem_of_getElem? mm_k72, List.forall_mem_cons.mpr ⟨List.mem_of_getElem? mm_k73, List.forall_mem_cons.mpr ⟨List.mem_of_getElem? mm_k74, List.forall_mem_cons.mpr ⟨List.mem_of_getElem? mm_k75, List.forall_mem_cons.mpr ⟨List.mem_of_getElem? mm_k76, List.forall_mem_cons.mpr ⟨List.mem_of_getElem? mm_k77, List.forall_mem_cons.mpr ⟨List.mem_of_getElem? mm_k78, List.forall_mem_cons.mpr ⟨List.mem_of_getElem? mm_k79, fun _ h => absurd h List.not_mem_nil⟩⟩⟩⟩⟩⟩⟩⟩⟩⟩⟩⟩⟩⟩⟩⟩⟩⟩⟩⟩⟩⟩⟩⟩⟩⟩⟩⟩⟩⟩⟩⟩⟩⟩⟩⟩⟩⟩⟩⟩
theorem mm_kk2 : ∀ me ∈ mm_MT2, mm_codeW me ∈ lw_tbl := List.forall_mem_cons.mpr ⟨List.mem_of_getElem? mm_k80, List.forall_mem_cons.mpr ⟨List.mem_of_getElem? mm_k81, List.forall_mem_cons.mpr ⟨List.mem_of_getElem? mm_k82, List.forall_mem_cons.mpr ⟨List.mem_of_getElem? mm_k83, List.forall_mem_cons.mpr ⟨List.mem_of_getElem? mm_k84, List.forall_mem_cons.mpr ⟨List.mem_of_getElem? mm_k85, List.forall_mem_cons.mpr ⟨List.mem_of_getElem? mm_k86, List.forall_mem_cons.mpr ⟨List.mem_of_getElem? mm_k87, List.forall_mem_cons.mpr ⟨List.mem_of_getElem? mm_k88, List.forall_mem_cons.mpr ⟨List.mem_of_getElem? mm_k89, List.forall_mem_cons.mpr ⟨List.mem_of_getElem? mm_k90, List.forall_mem_cons.mpr ⟨List.mem_of_getElem? mm_k91, List.forall_mem_cons.mpr ⟨List.mem_of_getElem? mm_k92, List.forall_mem_cons.mpr ⟨List.mem_of_getElem? mm_k93, List.forall_mem_cons.mpr ⟨List.mem_of_getElem? mm_k94, List.forall_mem_cons.mpr ⟨List.mem_of_getElem? mm_k95, List.forall_mem_cons.mpr ⟨List.mem_of_getElem? mm_k96, List.forall_mem_cons.mpr ⟨List.mem_of_getElem? mm_k97, List.forall_mem_cons.mpr ⟨List.mem_of_getElem? mm_k98, List.forall_mem_cons.mpr ⟨List.mem_of_getElem? mm_k99, List.forall_mem_cons.mpr ⟨List.mem_of_getElem? mm_k100, List.forall_mem_cons.mpr ⟨List.mem_of_getElem? mm_k101, List.forall_mem_cons.mpr ⟨List.mem_of_getElem? mm_k102, List.forall_mem_cons.mpr ⟨List.mem_of_getElem? mm_k103, List.forall_mem_cons.mpr ⟨List.mem_of_getElem? mm_k104, List.forall_mem_cons.mpr ⟨List.mem_of_getElem? mm_k105, List.forall_mem_cons.mpr ⟨List.mem_of_getElem? mm_k106, List.forall_mem_cons.mpr ⟨List.mem_of_getElem? mm_k107, List.forall_mem_cons.mpr ⟨List.mem_of_getElem? mm_k108, List.forall_mem_cons.mpr ⟨List.mem_of_getElem? mm_k109, List.forall_mem_cons.mpr ⟨List.mem_of_getElem? mm_k110, List.forall_mem_cons.mpr ⟨List.mem_of_getElem? mm_k111, List.forall_mem_cons.mpr ⟨List.mem_of_getElem? mm_k112, List.forall_mem_cons.mpr ⟨List.mem_of_getElem? mm_k113, List.forall_mem_cons.mpr ⟨List.mem_of_getElem? mm_k114, List.forall_mem_cons.mpr ⟨List.mem_of_getElem? mm_k115, List.forall_mem_cons.mpr ⟨List.mem_of_getElem? mm_k116, List.forall_mem_cons.mpr ⟨List.mem_of_getElem? mm_k117, List.forall_mem_cons.mpr ⟨List.mem_of_getElem? mm_k118, List.forall_mem_cons.mpr ⟨List.mem_of_getElem? mm_k119, fun _ h => absurd h List.not_mem_nil⟩⟩⟩⟩⟩⟩⟩⟩⟩⟩⟩⟩⟩⟩⟩⟩⟩⟩⟩⟩⟩⟩⟩⟩⟩⟩⟩⟩⟩⟩⟩⟩⟩⟩⟩⟩⟩⟩⟩⟩
theorem mm_kk3 : ∀ me ∈ mm_MT3, mm_codeW me ∈ lw_tbl := List.forall_mem_cons.mpr ⟨List.mem_of_getElem? mm_k120, List.forall_mem_cons.mpr ⟨List.mem_of_getElem? mm_k121, List.forall_mem_cons.mpr ⟨List.mem_of_getElem? mm_k122, List.forall_mem_cons.mpr ⟨List.mem_of_getElem? mm_k123, List.forall_mem_cons.mpr ⟨List.mem_of_getElem? mm_k124, List.forall_mem_cons.mpr ⟨List.mem_of_getElem? mm_k125, List.forall_mem_cons.mpr ⟨List.mem_of_getElem? mm_k126, List.forall_mem_cons.mpr ⟨List.mem_of_getElem? mm_k127, List.forall_mem_cons.mpr ⟨List.mem_of_getElem? mm_k128, List.forall_mem_cons.mpr ⟨List.mem_of_getElem? mm_k129, List.forall_mem_cons.mpr ⟨List.mem_of_getElem? mm_k130, List.forall_mem_cons.mpr ⟨List.mem_of_getElem? mm_k131, List.forall_mem_cons.mpr ⟨List.mem_of_getElem? mm_k132, List.forall_mem_cons.mpr ⟨List.mem_of_getElem? mm_k133, List.forall_mem_cons.mpr ⟨List.mem_of_getElem? mm_k134, List.forall_mem_cons.mpr ⟨List.mem_of_getElem? mm_k135, List.forall_mem_cons.mpr ⟨List.mem_of_getElem? mm_k136, List.forall_mem_cons.mpr ⟨List.mem_of_getElem? mm_k137, List.forall_mem_cons.mpr ⟨List.mem_of_getElem? mm_k138, List.forall_mem_cons.mpr ⟨List.mem_of_getElem? mm_k139, List.forall_mem_cons.mpr ⟨List.mem_of_getElem? mm_k140, List.forall_mem_cons.mpr ⟨List.mem_of_getElem? mm_k141, List.forall_mem_cons.mpr ⟨List.mem_of_getElem? mm_k142, List.forall_mem_cons.mpr ⟨List.mem_of_getElem? mm_k143, List.forall_mem_cons.mpr ⟨List.mem_of_getElem? mm_k144, List.forall_mem_cons.mpr ⟨List.mem_of_getElem? mm_k145, List.forall_mem_cons.mpr ⟨List.mem_of_getElem? mm_k146, List.forall_mem_cons.mpr ⟨List.mem_of_getElem? mm_k147, List.forall_mem_cons.mpr ⟨List.mem_of_getElem? mm_k148, List.forall_mem_cons.mpr ⟨List.mem_of_getElem? mm_k149, List.forall_mem_cons.mpr ⟨List.mem_of_getElem? mm_k150, List.forall_mem_cons.mpr ⟨List.mem_of_getElem? mm_k151, List.forall_mem_cons.mpr ⟨List.mem_of_getElem? mm_k152, List.forall_mem_cons.mpr ⟨List.mem_of_getElem? mm_k153, List.forall_mem_cons.mpr ⟨List.mem_of_getElem? mm_k154, List.forall_mem_cons.mpr ⟨List.mem_of_getElem? mm_k155, List.forall_mem_cons.mpr ⟨List.mem_of_getElem? mm_k156, List.forall_mem_cons.mpr ⟨List.mem_of_getElem? mm_k157, List.forall_mem_cons.mpr ⟨List.mem_of_getElem? mm_k158, List.forall_mem_cons.mpr ⟨List.mem_of_getElem? mm_k159, fun _ h => absurd h List.not_mem_nil⟩⟩⟩⟩⟩⟩⟩⟩⟩⟩⟩⟩⟩⟩⟩⟩⟩⟩⟩⟩⟩⟩⟩⟩⟩⟩⟩⟩⟩⟩⟩⟩⟩⟩⟩⟩⟩⟩⟩⟩
theorem mm_kk4 : ∀ me ∈ mm_MT4, mm_codeW me ∈ lw_tbl := List.forall_mem_cons.mpr ⟨List.mem_of_getElem? mm_k160, List.forall_mem_cons.mpr ⟨List.mem_of_getElem? mm_k161, List.forall_mem_cons.mpr ⟨List.mem_of_getElem? mm_k162, List.forall_mem_cons.mpr ⟨List.mem_of_getElem? mm_k163, List.forall_mem_cons.mpr ⟨List.mem_of_getElem? mm_k164, List.forall_mem_cons.mpr ⟨List.mem_of_getElem? mm_k165, List.forall_mem_cons.mpr ⟨List.mem_of_getElem? mm_k166, List.forall_mem_cons.mpr ⟨List.mem_of_getElem? mm_k167, List.forall_mem_cons.mpr ⟨List.mem_of_getElem? mm_k168, List.forall_mem_cons.mpr ⟨List.mem_of_getElem? mm_k169, List.forall_mem_cons.mpr ⟨List.mem_of_getElem? mm_k170, List.forall_mem_cons.mpr ⟨List.mem_of_getElem? mm_k171, List.forall_mem_cons.mpr ⟨List.mem_of_getElem? mm_k172, List.forall_mem_cons.mpr ⟨List.mem_of_getElem? mm_k173, List.forall_mem_cons.mpr ⟨List.mem_of_getElem? mm_k174, List.forall_mem_cons.mpr ⟨List.mem_of_getElem? mm_k175, List.forall_mem_cons.mpr ⟨List.mem_of_getElem? mm_k176, List.forall_mem_cons.mpr ⟨List.mem_of_getElem? mm_k177, List.forall_mem_cons.mpr ⟨List.mem_of_getElem? mm_k178, List.forall_mem_cons.mpr ⟨List.mem_of_getElem? mm_k179, List.forall_mem_cons.mpr ⟨List.mem_of_getElem? mm_k180, List.forall_mem_cons.mpr ⟨List.mem_of_getElem? mm_k181, List.forall_mem_cons.mpr ⟨List.mem_of_getElem? mm_k182, List.forall_mem_cons.mpr ⟨List.mem_of_getElem? mm_k183, List.forall_mem_cons.mpr ⟨List.mem_of_getElem? mm_k184, List.forall_mem_cons.mpr ⟨List.mem_of_getElem? mm_k185, List.forall_mem_cons.mpr ⟨List.mem_of_getElem? mm_k186, List.forall_mem_cons.mpr ⟨List.mem_of_getElem? mm_k187, List.forall_mem_cons.mpr ⟨List.mem_of_getElem? mm_k188, List.forall_mem_cons.mpr ⟨List.mem_of_getElem? mm_k189, List.forall_mem_cons.mpr ⟨List.mem_of_getElem? mm_k190, List.forall_mem_cons.mpr ⟨List.mem_of_getElem? mm_k191, List.forall_mem_cons.mpr ⟨List.mem_of_getElem? mm_k192, List.forall_mem_cons.mpr ⟨List.mem_of_getElem? mm_k193, List.forall_mem_cons.mpr ⟨List.mem_of_getElem? mm_k194, List.forall_mem_cons.mpr ⟨List.mem_of_getElem? mm_k195, List.forall_mem_cons.mpr ⟨List.mem_of_getElem? mm_k196, List.forall_mem_cons.mpr ⟨List.mem_of_getElem? mm_k197, List.forall_mem_cons.mpr ⟨List.mem_of_getElem? mm_k198, List.forall_mem_cons.mpr ⟨List.mem_of_getElem? mm_k199, fun _ h => absurd h List.not_mem_nil⟩⟩⟩⟩⟩⟩⟩⟩⟩⟩⟩⟩⟩⟩⟩⟩⟩⟩⟩⟩⟩⟩⟩⟩⟩⟩⟩⟩⟩⟩⟩⟩⟩⟩⟩⟩⟩⟩⟩⟩
theorem mm_kk5 : ∀ me ∈ mm_MT5, mm_codeW me ∈ lw_tbl := List.forall_mem_cons.mpr ⟨List.mem_of_getElem? mm_k200, List.forall_mem_cons.mpr ⟨List.mem_of_getElem? mm_k201, List.forall_mem_cons.mpr ⟨List.mem_of_getElem? mm_k202, List.forall_mem_cons.mpr ⟨List.mem_of_getElem? mm_k203, List.forall_mem_cons.mpr ⟨List.mem_of_getElem? mm_k204, List.forall_mem_cons.mpr ⟨List.mem_of_getElem? mm_k205, List.forall_mem_cons.mpr ⟨List.mem_of_getElem? mm_k206, List.forall_mem_cons.mpr ⟨List.mem_of_getElem? mm_k207, List.forall_mem_cons.mpr ⟨List.mem_of_getElem? mm_k208, List.forall_mem_cons.mpr ⟨List.mem_of_getElem? mm_k209, List.forall_mem_cons.mpr ⟨List.mem_of_getElem? mm_k210, List.forall_mem_cons.mpr ⟨List.mem_of_getElem? mm_k211, List.forall_mem_cons.mpr ⟨List.mem_of_getElem? mm_k212, List.forall_mem_cons.mpr ⟨List.mem_of_getElem? mm_k213, List.forall_mem_cons.mpr ⟨List.mem_of_getElem? mm_k214, List.forall_mem_cons.mpr ⟨List.mem_of_getElem? mm_k215, List.forall_mem_cons.mpr ⟨List.mem_of_getElem? mm_k216, List.forall_mem_cons.mpr ⟨List.mem_of_getElem? mm_k217, List.forall_mem_cons.mpr ⟨List.mem_of_getElem? mm_k218, List.forall_mem_cons.mpr ⟨List.mem_of_getElem? mm_k219, List.forall_mem_cons.mpr ⟨List.mem_of_getElem? mm_k220, List.forall_mem_cons.mpr ⟨List.mem_of_getElem? mm_k221, List.forall_mem_cons.mpr ⟨List.mem_of_getElem? mm_k222, fun _ h => absurd h List.not_mem_nil⟩⟩⟩⟩⟩⟩⟩⟩⟩⟩⟩⟩⟩⟩⟩⟩⟩⟩⟩⟩⟩⟩⟩
theorem mm_codes : ∀ me ∈ mm_MT, mm_codeW me ∈ lw_tbl := List.forall_mem_append.mpr ⟨mm_kk0, List.forall_mem_append.mpr ⟨mm_kk1, List.forall_mem_append.mpr ⟨mm_kk2, List.forall_mem_append.mpr ⟨mm_kk3, List.forall_mem_append.mpr ⟨mm_kk4, mm_kk5⟩⟩⟩⟩⟩
