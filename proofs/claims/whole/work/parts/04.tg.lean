/-! the words of the tables that the methods need -/
def TG : List Cond := ([.classLink "PageVault$Frames" 9 "[[I",
  .arrayClass .int,
  .arrayClass .boolean,
  .classLink "PageVault" 9 "PageVault$Frames",
  .classLink "PageVault" 27 "PageVault$Space",
  .classLink "PageVaultLaw" 7 "PageVault",
  .classLink "PageVaultLaw" 18 "PageVaultModel",
  .instantiable "PageVault" 4,
  .instantiable "PageVault$Frames" 3,
  .instantiable "PageVault$Space" 3,
  .instantiable "PageVaultModel" 19,
  .methodLink "PageVault" 3 Lib.objectInit,
  .methodLink "PageVault$Frames" 3 Lib.objectInit,
  .methodLink "PageVault$Space" 3 Lib.objectInit,
  .methodLink "PageVaultModel" 1 Lib.objectInit,
  .instanceMethod Lib.objectInit,
  .code Lib.objectInit ⟨#[0xb1]⟩ 1 none,
  .methodLink "PageVault" 20 y_F_init,
  .methodLink "PageVault" 33 y_S_init,
  .methodLink "PageVaultLaw" 15 y_V_init,
  .methodLink "PageVaultLaw" 20 y_M_init,
  .instanceMethod y_F_init,
  .instanceMethod y_S_init,
  .instanceMethod y_V_init,
  .instanceMethod y_M_init,
  .code y_F_init b_F_init 2 none,
  .code y_S_init b_S_init 2 none,
  .code y_V_init b_V_init 3 none,
  .code y_M_init b_M_init 2 none,
  .methodLink "PageVault" 11 Lib.Math.min.name,
  .methodLink "PageVault" 17 Lib.Math.max.name,
  .static Lib.Math.min.name,
  .static Lib.Math.max.name,
  .code Lib.Math.min.name Lib.Math.min.code 2 (some .int),
  .code Lib.Math.max.name Lib.Math.max.code 2 (some .int),
  .initialized "java/lang/Math",
  .initialized "PageVaultLaw",
  .initialized "PageVault",
  .initialized "PageVault$Frames",
  .initialized "PageVault$Space",
  .initialized "PageVaultModel",
  .methodLink "PageVaultLaw" 9 y_L_cell,
  .static y_L_cell,
  .code y_L_cell b_L_cell 2 (some .int),
  .fieldLink "PageVault$Frames" 11 "PageVault$Frames" "words" "[[I",
  .fieldLink "PageVault$Frames" 16 "PageVault$Frames" "holders" "[I",
  .fieldLink "PageVault$Frames" 20 "PageVault$Frames" "spare" "I",
  .fieldLink "PageVault$Space" 9 "PageVault$Space" "frames" "LPageVault$Frames;",
  .fieldLink "PageVault$Space" 15 "PageVault$Space" "root" "I",
  .fieldLink "PageVault" 23 "PageVault" "frames" "LPageVault$Frames;",
  .fieldLink "PageVault" 29 "PageVault" "spaces" "[LPageVault$Space;",
  .fieldLink "PageVault" 36 "PageVault" "buffer" "[I",
  .fieldLink "PageVaultModel" 7 "PageVaultModel" "alive" "[Z",
  .fieldLink "PageVaultModel" 13 "PageVaultModel" "ends" "[I",
  .fieldLink "PageVaultModel" 17 "PageVaultModel" "pageSpace" "[I",
  .fieldLink "PageVaultModel" 20 "PageVaultModel" "pageNumber" "[I",
  .fieldLink "PageVaultModel" 23 "PageVaultModel" "pageFlags" "[I",
  .fieldLink "PageVaultModel" 26 "PageVaultModel" "pageKin" "[I",
  .fieldLink "PageVaultModel" 29 "PageVaultModel" "regionSpace" "[I",
  .fieldLink "PageVaultModel" 32 "PageVaultModel" "regionNumber" "[I",
  .fieldLink "PageVaultModel" 35 "PageVaultModel" "deed" "[I",
  .fieldLink "PageVaultModel" 38 "PageVaultModel" "who" "[I",
  .fieldLink "PageVaultModel" 41 "PageVaultModel" "where" "[I",
  .fieldLink "PageVaultModel" 44 "PageVaultModel" "much" "[I",
  .fieldLink "PageVaultModel" 47 "PageVaultModel" "what" "[I",
  .fieldLink "PageVaultModel" 50 "PageVaultModel" "frames" "I",
  .fieldLink "PageVaultModel" 54 "PageVaultModel" "deeds" "I",
  .fieldLink "PageVaultModel" 57 "PageVaultModel" "pages" "I",
  .code y_M_firstOfKin b_M_firstOfKin 3 (some .boolean),
  .methodLink "PageVaultModel" 63 y_M_firstOfKin,
  .instanceMethod y_M_firstOfKin,
  .selects "PageVaultModel" y_M_firstOfKin y_M_firstOfKin,
  .fieldLink "PageVaultModel" 60 "PageVaultModel" "regions" "I",
  .code y_M_freeFrames b_M_freeFrames 3 (some .int),
  .methodLink "PageVaultModel" 67 y_M_freeFrames,
  .instanceMethod y_M_freeFrames,
  .selects "PageVaultModel" y_M_freeFrames y_M_freeFrames,
  .code y_M_hasRegion b_M_hasRegion 4 (some .boolean),
  .methodLink "PageVaultModel" 71 y_M_hasRegion,
  .instanceMethod y_M_hasRegion,
  .selects "PageVaultModel" y_M_hasRegion y_M_hasRegion,
  .fieldLink "PageVaultModel" 75 "PageVaultModel" "kins" "I",
  .code y_M_add b_M_add 5 none,
  .methodLink "PageVaultModel" 78 y_M_add,
  .instanceMethod y_M_add,
  .selects "PageVaultModel" y_M_add y_M_add,
  .code y_M_note b_M_note 6 none,
  .methodLink "PageVaultModel" 82 y_M_note,
  .instanceMethod y_M_note,
  .selects "PageVaultModel" y_M_note y_M_note,
  .constant "PageVaultModel" 86 1073741824,
  .code y_M_row b_M_row 4 (some .int),
  .methodLink "PageVaultModel" 87 y_M_row,
  .instanceMethod y_M_row,
  .selects "PageVaultModel" y_M_row y_M_row,
  .code y_M_sharers b_M_sharers 4 (some .int),
  .methodLink "PageVaultModel" 98 y_M_sharers,
  .instanceMethod y_M_sharers,
  .selects "PageVaultModel" y_M_sharers y_M_sharers,
  .code y_M_room b_M_room 3 (some .boolean),
  .methodLink "PageVaultModel" 91 y_M_room,
  .instanceMethod y_M_room,
  .selects "PageVaultModel" y_M_room y_M_room,
  .code y_M_addEmpty b_M_addEmpty 4 none,
  .methodLink "PageVaultModel" 94 y_M_addEmpty,
  .instanceMethod y_M_addEmpty,
  .selects "PageVaultModel" y_M_addEmpty y_M_addEmpty,
  .code y_M_lives b_M_lives 2 (some .boolean),
  .methodLink "PageVaultModel" 105 y_M_lives,
  .instanceMethod y_M_lives,
  .selects "PageVaultModel" y_M_lives y_M_lives,
  .fieldLink "PageVaultModel" 102 "PageVaultModel" "lastTrap" "I",
  .code y_M_touch b_M_touch 5 (some .int),
  .methodLink "PageVaultModel" 108 y_M_touch,
  .instanceMethod y_M_touch,
  .selects "PageVaultModel" y_M_touch y_M_touch,
  .code y_M_byteOf b_M_byteOf 9 (some .int),
  .methodLink "PageVaultModel" 112 y_M_byteOf,
  .instanceMethod y_M_byteOf,
  .selects "PageVaultModel" y_M_byteOf y_M_byteOf,
  .code y_M_unused b_M_unused 2 (some .int),
  .methodLink "PageVaultModel" 115 y_M_unused,
  .instanceMethod y_M_unused,
  .selects "PageVaultModel" y_M_unused y_M_unused,
  .code y_M_removePages b_M_removePages 5 none,
  .methodLink "PageVaultModel" 118 y_M_removePages,
  .instanceMethod y_M_removePages,
  .selects "PageVaultModel" y_M_removePages y_M_removePages,
  .code y_M_removeRegions b_M_removeRegions 4 none,
  .methodLink "PageVaultModel" 122 y_M_removeRegions,
  .instanceMethod y_M_removeRegions,
  .selects "PageVaultModel" y_M_removeRegions y_M_removeRegions,
  .code y_M_peopled b_M_peopled 6 (some .int),
  .methodLink "PageVaultModel" 126 y_M_peopled,
  .instanceMethod y_M_peopled,
  .selects "PageVaultModel" y_M_peopled y_M_peopled,
  .constantLong "PageVaultModel" 129 1073741824,
  .code y_M_aimed b_M_aimed 5 (some .boolean),
  .methodLink "PageVaultModel" 131 y_M_aimed,
  .instanceMethod y_M_aimed,
  .selects "PageVaultModel" y_M_aimed y_M_aimed,
  .code y_M_number b_M_number 6 (some .int),
  .methodLink "PageVaultModel" 135 y_M_number,
  .instanceMethod y_M_number,
  .selects "PageVaultModel" y_M_number y_M_number,
  .code y_M_walk b_M_walk 6 (some .int),
  .methodLink "PageVaultModel" 138 y_M_walk,
  .instanceMethod y_M_walk,
  .selects "PageVaultModel" y_M_walk y_M_walk,
  .code y_M_came b_M_came 4 none,
  .methodLink "PageVaultModel" 142 y_M_came,
  .instanceMethod y_M_came,
  .selects "PageVaultModel" y_M_came y_M_came,
  .code y_S_isOpen b_S_isOpen 1 (some .boolean),
  .methodLink "PageVault" 131 y_S_isOpen,
  .instanceMethod y_S_isOpen,
  .selects "PageVault$Space" y_S_isOpen y_S_isOpen,
  .code y_V_leastUnused b_V_leastUnused 2 (some .int),
  .methodLink "PageVault" 40 y_V_leastUnused,
  .instanceMethod y_V_leastUnused,
  .selects "PageVault" y_V_leastUnused y_V_leastUnused,
  .code y_F_spare b_F_spare 1 (some .int),
  .methodLink "PageVault" 44 y_F_spare,
  .instanceMethod y_F_spare,
  .selects "PageVault$Frames" y_F_spare y_F_spare,
  .code y_A_fill b_A_fill 4 none,
  .initialized "java/util/Arrays",
  .methodLink "PageVault$Frames" 24 y_A_fill,
  .static y_A_fill,
  .code y_F_take b_F_take 2 (some .int),
  .methodLink "PageVault$Space" 22 y_F_take,
  .instanceMethod y_F_take,
  .selects "PageVault$Frames" y_F_take y_F_take,
  .fieldLink "PageVault$Space" 19 "PageVault$Space" "length" "I",
  .code y_S_open b_S_open 2 none,
  .methodLink "PageVault" 47 y_S_open,
  .instanceMethod y_S_open,
  .selects "PageVault$Space" y_S_open y_S_open,
  .code y_V_find b_V_find 2 (some (.object "PageVault$Space")),
  .methodLink "PageVault" 50 y_V_find,
  .instanceMethod y_V_find,
  .selects "PageVault" y_V_find y_V_find,
  .code y_F_isFrame b_F_isFrame 2 (some .boolean),
  .methodLink "PageVault$Frames" 30 y_F_isFrame,
  .instanceMethod y_F_isFrame,
  .selects "PageVault$Frames" y_F_isFrame y_F_isFrame,
  .code y_F_release b_F_release 2 none,
  .methodLink "PageVault$Space" 36 y_F_release,
  .instanceMethod y_F_release,
  .selects "PageVault$Frames" y_F_release y_F_release,
  .code y_F_word b_F_word 3 (some .int),
  .methodLink "PageVault$Space" 59 y_F_word,
  .instanceMethod y_F_word,
  .selects "PageVault$Frames" y_F_word y_F_word,
  .code y_V_frameOf b_V_frameOf 1 (some .int),
  .static y_V_frameOf,
  .code y_S_tableOf b_S_tableOf 2 (some .int),
  .methodLink "PageVault$Space" 32 y_S_tableOf,
  .instanceMethod y_S_tableOf,
  .selects "PageVault$Space" y_S_tableOf y_S_tableOf,
  .code y_F_setWord b_F_setWord 4 none,
  .methodLink "PageVault$Space" 62 y_F_setWord,
  .instanceMethod y_F_setWord,
  .selects "PageVault$Frames" y_F_setWord y_F_setWord,
  .code y_S_removePagesFrom b_S_removePagesFrom 7 none,
  .methodLink "PageVault$Space" 28 y_S_removePagesFrom,
  .instanceMethod y_S_removePagesFrom,
  .selects "PageVault$Space" y_S_removePagesFrom y_S_removePagesFrom,
  .code y_S_close b_S_close 2 none,
  .methodLink "PageVault" 54 y_S_close,
  .instanceMethod y_S_close,
  .selects "PageVault$Space" y_S_close y_S_close,
  .code y_S_hasPageIn b_S_hasPageIn 4 (some .boolean),
  .methodLink "PageVault$Space" 42 y_S_hasPageIn,
  .instanceMethod y_S_hasPageIn,
  .selects "PageVault$Space" y_S_hasPageIn y_S_hasPageIn,
  .code y_S_framesOfCopy b_S_framesOfCopy 3 (some .int),
  .methodLink "PageVault" 57 y_S_framesOfCopy,
  .instanceMethod y_S_framesOfCopy,
  .selects "PageVault$Space" y_S_framesOfCopy y_S_framesOfCopy,
  .code y_F_hold b_F_hold 2 none,
  .methodLink "PageVault$Space" 91 y_F_hold,
  .instanceMethod y_F_hold,
  .selects "PageVault$Frames" y_F_hold y_F_hold,
  .code y_V_entryOf b_V_entryOf 2 (some .int),
  .static y_V_entryOf,
  .code y_S_addTable b_S_addTable 3 (some .int),
  .methodLink "PageVault$Space" 69 y_S_addTable,
  .instanceMethod y_S_addTable,
  .selects "PageVault$Space" y_S_addTable y_S_addTable,
  .methodLink "PageVault$Frames" 34 arraycopyName,
  .native arraycopyName,
  .static arraycopyName,
  .initialized "java/lang/System",
  .code y_F_copyWords b_F_copyWords 3 none,
  .methodLink "PageVault$Space" 81 y_F_copyWords,
  .instanceMethod y_F_copyWords,
  .selects "PageVault$Frames" y_F_copyWords y_F_copyWords,
  .code y_S_shareRegion b_S_shareRegion 5 none,
  .methodLink "PageVault$Space" 46 y_S_shareRegion,
  .instanceMethod y_S_shareRegion,
  .selects "PageVault$Space" y_S_shareRegion y_S_shareRegion,
  .methodLink "PageVault$Space" 39 y_S_open,
  .code y_S_openAsCopy b_S_openAsCopy 3 none,
  .methodLink "PageVault" 60 y_S_openAsCopy,
  .instanceMethod y_S_openAsCopy,
  .selects "PageVault$Space" y_S_openAsCopy y_S_openAsCopy,
  .constant "PageVault" 158 1073741824,
  .code y_V_isUsers b_V_isUsers 1 (some .boolean),
  .methodLink "PageVault" 135 y_V_isUsers,
  .static y_V_isUsers,
  .code y_V_beginsPage b_V_beginsPage 1 (some .boolean),
  .methodLink "PageVault" 64 y_V_beginsPage,
  .static y_V_beginsPage,
  .code y_V_areFlags b_V_areFlags 1 (some .boolean),
  .methodLink "PageVault" 68 y_V_areFlags,
  .static y_V_areFlags,
  .code y_S_slotOf b_S_slotOf 1 (some .int),
  .methodLink "PageVault$Space" 56 y_S_slotOf,
  .static y_S_slotOf,
  .code y_S_entryAt b_S_entryAt 2 (some .int),
  .methodLink "PageVault" 71 y_S_entryAt,
  .instanceMethod y_S_entryAt,
  .selects "PageVault$Space" y_S_entryAt y_S_entryAt,
  .methodLink "PageVault$Space" 66 y_F_spare,
  .code y_S_addPage b_S_addPage 6 (some .int),
  .methodLink "PageVault" 75 y_S_addPage,
  .instanceMethod y_S_addPage,
  .selects "PageVault$Space" y_S_addPage y_S_addPage,
  .methodLink "PageVault$Space" 50 Lib.Math.max.name,
  .code y_S_reach b_S_reach 2 none,
  .methodLink "PageVault" 78 y_S_reach,
  .instanceMethod y_S_reach,
  .selects "PageVault$Space" y_S_reach y_S_reach,
  .methodLink "PageVault" 81 y_V_frameOf,
  .methodLink "PageVault" 84 y_V_entryOf,
  .code y_S_setEntry b_S_setEntry 3 none,
  .methodLink "PageVault" 87 y_S_setEntry,
  .instanceMethod y_S_setEntry,
  .selects "PageVault$Space" y_S_setEntry y_S_setEntry,
  .code y_S_length b_S_length 1 (some .int),
  .methodLink "PageVault" 91 y_S_length,
  .instanceMethod y_S_length,
  .selects "PageVault$Space" y_S_length y_S_length,
  .constantLong "PageVault" 94 1073741824,
  .code y_S_resize b_S_resize 2 none,
  .methodLink "PageVault" 96 y_S_resize,
  .instanceMethod y_S_resize,
  .selects "PageVault$Space" y_S_resize y_S_resize,
  .fieldLink "PageVault" 103 "PageVault" "latestTrap" "I",
  .code y_V_isStraight b_V_isStraight 2 (some .boolean),
  .methodLink "PageVault" 107 y_V_isStraight,
  .static y_V_isStraight,
  .code y_V_trapped b_V_trapped 2 (some .int),
  .methodLink "PageVault" 111 y_V_trapped,
  .instanceMethod y_V_trapped,
  .selects "PageVault" y_V_trapped y_V_trapped,
  .code y_V_touch b_V_touch 6 (some .int),
  .methodLink "PageVault" 138 y_V_touch,
  .instanceMethod y_V_touch,
  .selects "PageVault" y_V_touch y_V_touch,
  .code y_F_wordOf b_F_wordOf 1 (some .int),
  .methodLink "PageVault$Frames" 40 y_F_wordOf,
  .static y_F_wordOf,
  .methodLink "PageVault$Frames" 44 y_F_word,
  .code y_F_bitOf b_F_bitOf 1 (some .int),
  .methodLink "PageVault$Frames" 48 y_F_bitOf,
  .static y_F_bitOf,
  .code y_F_mask b_F_mask 1 (some .int),
  .methodLink "PageVault$Frames" 51 y_F_mask,
  .static y_F_mask,
  .code y_F_read b_F_read 4 (some .int),
  .methodLink "PageVault" 142 y_F_read,
  .instanceMethod y_F_read,
  .selects "PageVault$Frames" y_F_read y_F_read,
  .code y_F_holders b_F_holders 2 (some .int),
  .methodLink "PageVault" 128 y_F_holders,
  .instanceMethod y_F_holders,
  .selects "PageVault$Frames" y_F_holders y_F_holders,
  .methodLink "PageVault$Space" 75 y_S_entryAt,
  .code y_V_flagsOf b_V_flagsOf 1 (some .int),
  .static y_V_flagsOf,
  .methodLink "PageVault$Space" 88 y_S_setEntry,
  .code y_S_partPage b_S_partPage 4 (some .int),
  .methodLink "PageVault" 152 y_S_partPage,
  .instanceMethod y_S_partPage,
  .selects "PageVault$Space" y_S_partPage y_S_partPage,
  .code y_V_frameOrFull b_V_frameOrFull 2 (some .int),
  .methodLink "PageVault" 155 y_V_frameOrFull,
  .instanceMethod y_V_frameOrFull,
  .selects "PageVault" y_V_frameOrFull y_V_frameOrFull,
  .code y_V_touchAbsent b_V_touchAbsent 4 (some .int),
  .methodLink "PageVault" 149 y_V_touchAbsent,
  .instanceMethod y_V_touchAbsent,
  .selects "PageVault" y_V_touchAbsent y_V_touchAbsent,
  .code y_V_number b_V_number 6 (some .int),
  .methodLink "PageVault" 99 y_V_number,
  .instanceMethod y_V_number,
  .selects "PageVault" y_V_number y_V_number,
  .methodLink "PageVault$Frames" 54 y_F_setWord,
  .code y_F_write b_F_write 6 none,
  .methodLink "PageVault" 146 y_F_write,
  .instanceMethod y_F_write,
  .selects "PageVault$Frames" y_F_write y_F_write,
  .code y_V_write b_V_write 6 (some .boolean),
  .methodLink "PageVault" 114 y_V_write,
  .instanceMethod y_V_write,
  .selects "PageVault" y_V_write y_V_write,
  .code y_V_readByte b_V_readByte 4 (some .int),
  .methodLink "PageVault" 118 y_V_readByte,
  .instanceMethod y_V_readByte,
  .selects "PageVault" y_V_readByte y_V_readByte,
  .code y_V_entryIn b_V_entryIn 4 (some .int),
  .methodLink "PageVault" 122 y_V_entryIn,
  .instanceMethod y_V_entryIn,
  .selects "PageVault" y_V_entryIn y_V_entryIn,
  .methodLink "PageVault" 125 y_V_flagsOf,
  .code y_V_make b_V_make 2 (some .int),
  .methodLink "PageVaultLaw" 21 y_V_make,
  .instanceMethod y_V_make,
  .selects "PageVault" y_V_make y_V_make,
  .code y_M_make b_M_make 2 (some .int),
  .methodLink "PageVaultLaw" 25 y_M_make,
  .instanceMethod y_M_make,
  .selects "PageVaultModel" y_M_make y_M_make,
  .code y_V_drop b_V_drop 3 (some .boolean),
  .methodLink "PageVaultLaw" 26 y_V_drop,
  .instanceMethod y_V_drop,
  .selects "PageVault" y_V_drop y_V_drop,
  .code y_M_drop b_M_drop 2 (some .boolean),
  .methodLink "PageVaultLaw" 30 y_M_drop,
  .instanceMethod y_M_drop,
  .selects "PageVaultModel" y_M_drop y_M_drop,
  .code y_V_fork b_V_fork 4 (some .int),
  .methodLink "PageVaultLaw" 31 y_V_fork,
  .instanceMethod y_V_fork,
  .selects "PageVault" y_V_fork y_V_fork,
  .code y_M_fork b_M_fork 5 (some .int),
  .methodLink "PageVaultLaw" 35 y_M_fork,
  .instanceMethod y_M_fork,
  .selects "PageVaultModel" y_M_fork y_M_fork,
  .code y_V_map b_V_map 5 (some .int),
  .methodLink "PageVaultLaw" 36 y_V_map,
  .instanceMethod y_V_map,
  .selects "PageVault" y_V_map y_V_map,
  .code y_M_map b_M_map 4 (some .int),
  .methodLink "PageVaultLaw" 40 y_M_map,
  .instanceMethod y_M_map,
  .selects "PageVaultModel" y_M_map y_M_map,
  .code y_V_protect b_V_protect 6 (some .boolean),
  .methodLink "PageVaultLaw" 41 y_V_protect,
  .instanceMethod y_V_protect,
  .selects "PageVault" y_V_protect y_V_protect,
  .code y_M_protect b_M_protect 5 (some .boolean),
  .methodLink "PageVaultLaw" 45 y_M_protect,
  .instanceMethod y_M_protect,
  .selects "PageVaultModel" y_M_protect y_M_protect,
  .code y_V_grow b_V_grow 7 (some .int),
  .methodLink "PageVaultLaw" 46 y_V_grow,
  .instanceMethod y_V_grow,
  .selects "PageVault" y_V_grow y_V_grow,
  .code y_M_grow b_M_grow 6 (some .int),
  .methodLink "PageVaultLaw" 50 y_M_grow,
  .instanceMethod y_M_grow,
  .selects "PageVaultModel" y_M_grow y_M_grow,
  .code y_V_size b_V_size 3 (some .int),
  .methodLink "PageVaultLaw" 51 y_V_size,
  .instanceMethod y_V_size,
  .selects "PageVault" y_V_size y_V_size,
  .code y_M_size b_M_size 2 (some .int),
  .methodLink "PageVaultLaw" 54 y_M_size,
  .instanceMethod y_M_size,
  .selects "PageVaultModel" y_M_size y_M_size,
  .code y_V_load b_V_load 4 (some .int),
  .methodLink "PageVaultLaw" 55 y_V_load,
  .instanceMethod y_V_load,
  .selects "PageVault" y_V_load y_V_load,
  .code y_M_load b_M_load 4 (some .int),
  .methodLink "PageVaultLaw" 58 y_M_load,
  .instanceMethod y_M_load,
  .selects "PageVaultModel" y_M_load y_M_load,
  .code y_V_fetch b_V_fetch 3 (some .int),
  .methodLink "PageVaultLaw" 59 y_V_fetch,
  .instanceMethod y_V_fetch,
  .selects "PageVault" y_V_fetch y_V_fetch,
  .code y_M_fetch b_M_fetch 3 (some .int),
  .methodLink "PageVaultLaw" 62 y_M_fetch,
  .instanceMethod y_M_fetch,
  .selects "PageVaultModel" y_M_fetch y_M_fetch,
  .code y_V_store b_V_store 5 (some .boolean),
  .methodLink "PageVaultLaw" 63 y_V_store,
  .instanceMethod y_V_store,
  .selects "PageVault" y_V_store y_V_store,
  .code y_M_store b_M_store 5 (some .boolean),
  .methodLink "PageVaultLaw" 67 y_M_store,
  .instanceMethod y_M_store,
  .selects "PageVaultModel" y_M_store y_M_store,
  .code y_V_trap b_V_trap 1 (some .int),
  .methodLink "PageVaultLaw" 68 y_V_trap,
  .instanceMethod y_V_trap,
  .selects "PageVault" y_V_trap y_V_trap,
  .code y_M_trap b_M_trap 1 (some .int),
  .methodLink "PageVaultLaw" 71 y_M_trap,
  .instanceMethod y_M_trap,
  .selects "PageVaultModel" y_M_trap y_M_trap,
  .code y_V_out b_V_out 6 (some .int),
  .methodLink "PageVaultLaw" 72 y_V_out,
  .instanceMethod y_V_out,
  .selects "PageVault" y_V_out y_V_out,
  .code y_M_out b_M_out 5 (some .int),
  .methodLink "PageVaultLaw" 75 y_M_out,
  .instanceMethod y_M_out,
  .selects "PageVaultModel" y_M_out y_M_out,
  .code y_V_in b_V_in 7 (some .int),
  .methodLink "PageVaultLaw" 76 y_V_in,
  .instanceMethod y_V_in,
  .selects "PageVault" y_V_in y_V_in,
  .code y_M_in b_M_in 5 (some .int),
  .methodLink "PageVaultLaw" 79 y_M_in,
  .instanceMethod y_M_in,
  .selects "PageVaultModel" y_M_in y_M_in,
  .code y_V_text b_V_text 7 (some .int),
  .methodLink "PageVaultLaw" 80 y_V_text,
  .instanceMethod y_V_text,
  .selects "PageVault" y_V_text y_V_text,
  .code y_M_text b_M_text 5 (some .int),
  .methodLink "PageVaultLaw" 83 y_M_text,
  .instanceMethod y_M_text,
  .selects "PageVaultModel" y_M_text y_M_text,
  .code y_V_put b_V_put 3 (some .boolean),
  .methodLink "PageVaultLaw" 84 y_V_put,
  .instanceMethod y_V_put,
  .selects "PageVault" y_V_put y_V_put,
  .code y_M_put b_M_put 3 (some .boolean),
  .methodLink "PageVaultLaw" 88 y_M_put,
  .instanceMethod y_M_put,
  .selects "PageVaultModel" y_M_put y_M_put,
  .code y_V_at b_V_at 2 (some .int),
  .methodLink "PageVaultLaw" 89 y_V_at,
  .instanceMethod y_V_at,
  .selects "PageVault" y_V_at y_V_at,
  .code y_M_at b_M_at 2 (some .int),
  .methodLink "PageVaultLaw" 92 y_M_at,
  .instanceMethod y_M_at,
  .selects "PageVaultModel" y_M_at y_M_at,
  .code y_V_free b_V_free 1 (some .int),
  .methodLink "PageVaultLaw" 93 y_V_free,
  .instanceMethod y_V_free,
  .selects "PageVault" y_V_free y_V_free,
  .code y_M_free b_M_free 1 (some .int),
  .methodLink "PageVaultLaw" 96 y_M_free,
  .instanceMethod y_M_free,
  .selects "PageVaultModel" y_M_free y_M_free,
  .code y_V_flags b_V_flags 4 (some .int),
  .methodLink "PageVaultLaw" 97 y_V_flags,
  .instanceMethod y_V_flags,
  .selects "PageVault" y_V_flags y_V_flags,
  .code y_M_flags b_M_flags 4 (some .int),
  .methodLink "PageVaultLaw" 100 y_M_flags,
  .instanceMethod y_M_flags,
  .selects "PageVaultModel" y_M_flags y_M_flags,
  .code y_V_owners b_V_owners 3 (some .int),
  .methodLink "PageVaultLaw" 101 y_V_owners,
  .instanceMethod y_V_owners,
  .selects "PageVault" y_V_owners y_V_owners,
  .code y_M_owners b_M_owners 4 (some .int),
  .methodLink "PageVaultLaw" 104 y_M_owners,
  .instanceMethod y_M_owners,
  .selects "PageVaultModel" y_M_owners y_M_owners,
  .laysFinal "PageVault" "PageVault" "frames" "LPageVault$Frames;",
  .laysFinal "PageVault" "PageVault" "spaces" "[LPageVault$Space;",
  .laysFinal "PageVault" "PageVault" "buffer" "[I",
  .lays "PageVault" "PageVault" "latestTrap" "I",
  .laysFinal "PageVault$Frames" "PageVault$Frames" "words" "[[I",
  .laysFinal "PageVault$Frames" "PageVault$Frames" "holders" "[I",
  .lays "PageVault$Frames" "PageVault$Frames" "spare" "I",
  .laysFinal "PageVault$Space" "PageVault$Space" "frames" "LPageVault$Frames;",
  .lays "PageVault$Space" "PageVault$Space" "root" "I",
  .lays "PageVault$Space" "PageVault$Space" "length" "I",
  .lays "PageVaultModel" "PageVaultModel" "frames" "I",
  .lays "PageVaultModel" "PageVaultModel" "lastTrap" "I",
  .laysFinal "PageVaultModel" "PageVaultModel" "alive" "[Z",
  .laysFinal "PageVaultModel" "PageVaultModel" "ends" "[I",
  .laysFinal "PageVaultModel" "PageVaultModel" "pageSpace" "[I",
  .laysFinal "PageVaultModel" "PageVaultModel" "pageNumber" "[I",
  .laysFinal "PageVaultModel" "PageVaultModel" "pageFlags" "[I",
  .laysFinal "PageVaultModel" "PageVaultModel" "pageKin" "[I",
  .lays "PageVaultModel" "PageVaultModel" "pages" "I",
  .lays "PageVaultModel" "PageVaultModel" "kins" "I",
  .laysFinal "PageVaultModel" "PageVaultModel" "regionSpace" "[I",
  .laysFinal "PageVaultModel" "PageVaultModel" "regionNumber" "[I",
  .lays "PageVaultModel" "PageVaultModel" "regions" "I",
  .laysFinal "PageVaultModel" "PageVaultModel" "deed" "[I",
  .laysFinal "PageVaultModel" "PageVaultModel" "who" "[I",
  .laysFinal "PageVaultModel" "PageVaultModel" "where" "[I",
  .laysFinal "PageVaultModel" "PageVaultModel" "much" "[I",
  .laysFinal "PageVaultModel" "PageVaultModel" "what" "[I",
  .lays "PageVaultModel" "PageVaultModel" "deeds" "I"] : List Cond)
theorem tg_0 : (.classLink "PageVault$Frames" 9 "[[I" : Cond) ∈ TG := List.mem_of_getElem? (i := 0) rfl
theorem tg_1 : (.arrayClass .int : Cond) ∈ TG := List.mem_of_getElem? (i := 1) rfl
theorem tg_2 : (.arrayClass .boolean : Cond) ∈ TG := List.mem_of_getElem? (i := 2) rfl
theorem tg_3 : (.classLink "PageVault" 9 "PageVault$Frames" : Cond) ∈ TG := List.mem_of_getElem? (i := 3) rfl
theorem tg_4 : (.classLink "PageVault" 27 "PageVault$Space" : Cond) ∈ TG := List.mem_of_getElem? (i := 4) rfl
theorem tg_5 : (.classLink "PageVaultLaw" 7 "PageVault" : Cond) ∈ TG := List.mem_of_getElem? (i := 5) rfl
theorem tg_6 : (.classLink "PageVaultLaw" 18 "PageVaultModel" : Cond) ∈ TG := List.mem_of_getElem? (i := 6) rfl
theorem tg_7 : (.instantiable "PageVault" 4 : Cond) ∈ TG := List.mem_of_getElem? (i := 7) rfl
theorem tg_8 : (.instantiable "PageVault$Frames" 3 : Cond) ∈ TG := List.mem_of_getElem? (i := 8) rfl
theorem tg_9 : (.instantiable "PageVault$Space" 3 : Cond) ∈ TG := List.mem_of_getElem? (i := 9) rfl
theorem tg_10 : (.instantiable "PageVaultModel" 19 : Cond) ∈ TG := List.mem_of_getElem? (i := 10) rfl
theorem tg_11 : (.methodLink "PageVault" 3 Lib.objectInit : Cond) ∈ TG := List.mem_of_getElem? (i := 11) rfl
theorem tg_12 : (.methodLink "PageVault$Frames" 3 Lib.objectInit : Cond) ∈ TG := List.mem_of_getElem? (i := 12) rfl
theorem tg_13 : (.methodLink "PageVault$Space" 3 Lib.objectInit : Cond) ∈ TG := List.mem_of_getElem? (i := 13) rfl
theorem tg_14 : (.methodLink "PageVaultModel" 1 Lib.objectInit : Cond) ∈ TG := List.mem_of_getElem? (i := 14) rfl
theorem tg_15 : (.instanceMethod Lib.objectInit : Cond) ∈ TG := List.mem_of_getElem? (i := 15) rfl
theorem tg_16 : (.code Lib.objectInit ⟨#[0xb1]⟩ 1 none : Cond) ∈ TG := List.mem_of_getElem? (i := 16) rfl
theorem tg_17 : (.methodLink "PageVault" 20 y_F_init : Cond) ∈ TG := List.mem_of_getElem? (i := 17) rfl
theorem tg_18 : (.methodLink "PageVault" 33 y_S_init : Cond) ∈ TG := List.mem_of_getElem? (i := 18) rfl
theorem tg_19 : (.methodLink "PageVaultLaw" 15 y_V_init : Cond) ∈ TG := List.mem_of_getElem? (i := 19) rfl
theorem tg_20 : (.methodLink "PageVaultLaw" 20 y_M_init : Cond) ∈ TG := List.mem_of_getElem? (i := 20) rfl
theorem tg_21 : (.instanceMethod y_F_init : Cond) ∈ TG := List.mem_of_getElem? (i := 21) rfl
theorem tg_22 : (.instanceMethod y_S_init : Cond) ∈ TG := List.mem_of_getElem? (i := 22) rfl
theorem tg_23 : (.instanceMethod y_V_init : Cond) ∈ TG := List.mem_of_getElem? (i := 23) rfl
theorem tg_24 : (.instanceMethod y_M_init : Cond) ∈ TG := List.mem_of_getElem? (i := 24) rfl
theorem tg_25 : (.code y_F_init b_F_init 2 none : Cond) ∈ TG := List.mem_of_getElem? (i := 25) rfl
theorem tg_26 : (.code y_S_init b_S_init 2 none : Cond) ∈ TG := List.mem_of_getElem? (i := 26) rfl
theorem tg_27 : (.code y_V_init b_V_init 3 none : Cond) ∈ TG := List.mem_of_getElem? (i := 27) rfl
theorem tg_28 : (.code y_M_init b_M_init 2 none : Cond) ∈ TG := List.mem_of_getElem? (i := 28) rfl
theorem tg_29 : (.methodLink "PageVault" 11 Lib.Math.min.name : Cond) ∈ TG := List.mem_of_getElem? (i := 29) rfl
theorem tg_30 : (.methodLink "PageVault" 17 Lib.Math.max.name : Cond) ∈ TG := List.mem_of_getElem? (i := 30) rfl
theorem tg_31 : (.static Lib.Math.min.name : Cond) ∈ TG := List.mem_of_getElem? (i := 31) rfl
theorem tg_32 : (.static Lib.Math.max.name : Cond) ∈ TG := List.mem_of_getElem? (i := 32) rfl
theorem tg_33 : (.code Lib.Math.min.name Lib.Math.min.code 2 (some .int) : Cond) ∈ TG := List.mem_of_getElem? (i := 33) rfl
theorem tg_34 : (.code Lib.Math.max.name Lib.Math.max.code 2 (some .int) : Cond) ∈ TG := List.mem_of_getElem? (i := 34) rfl
theorem tg_35 : (.initialized "java/lang/Math" : Cond) ∈ TG := List.mem_of_getElem? (i := 35) rfl
theorem tg_36 : (.initialized "PageVaultLaw" : Cond) ∈ TG := List.mem_of_getElem? (i := 36) rfl
theorem tg_37 : (.initialized "PageVault" : Cond) ∈ TG := List.mem_of_getElem? (i := 37) rfl
theorem tg_38 : (.initialized "PageVault$Frames" : Cond) ∈ TG := List.mem_of_getElem? (i := 38) rfl
theorem tg_39 : (.initialized "PageVault$Space" : Cond) ∈ TG := List.mem_of_getElem? (i := 39) rfl
theorem tg_40 : (.initialized "PageVaultModel" : Cond) ∈ TG := List.mem_of_getElem? (i := 40) rfl
theorem tg_41 : (.methodLink "PageVaultLaw" 9 y_L_cell : Cond) ∈ TG := List.mem_of_getElem? (i := 41) rfl
theorem tg_42 : (.static y_L_cell : Cond) ∈ TG := List.mem_of_getElem? (i := 42) rfl
theorem tg_43 : (.code y_L_cell b_L_cell 2 (some .int) : Cond) ∈ TG := List.mem_of_getElem? (i := 43) rfl
theorem tg_44 : (.fieldLink "PageVault$Frames" 11 "PageVault$Frames" "words" "[[I" : Cond) ∈ TG := List.mem_of_getElem? (i := 44) rfl
theorem tg_45 : (.fieldLink "PageVault$Frames" 16 "PageVault$Frames" "holders" "[I" : Cond) ∈ TG := List.mem_of_getElem? (i := 45) rfl
theorem tg_46 : (.fieldLink "PageVault$Frames" 20 "PageVault$Frames" "spare" "I" : Cond) ∈ TG := List.mem_of_getElem? (i := 46) rfl
theorem tg_47 : (.fieldLink "PageVault$Space" 9 "PageVault$Space" "frames" "LPageVault$Frames;" : Cond) ∈ TG := List.mem_of_getElem? (i := 47) rfl
theorem tg_48 : (.fieldLink "PageVault$Space" 15 "PageVault$Space" "root" "I" : Cond) ∈ TG := List.mem_of_getElem? (i := 48) rfl
theorem tg_49 : (.fieldLink "PageVault" 23 "PageVault" "frames" "LPageVault$Frames;" : Cond) ∈ TG := List.mem_of_getElem? (i := 49) rfl
theorem tg_50 : (.fieldLink "PageVault" 29 "PageVault" "spaces" "[LPageVault$Space;" : Cond) ∈ TG := List.mem_of_getElem? (i := 50) rfl
theorem tg_51 : (.fieldLink "PageVault" 36 "PageVault" "buffer" "[I" : Cond) ∈ TG := List.mem_of_getElem? (i := 51) rfl
theorem tg_52 : (.fieldLink "PageVaultModel" 7 "PageVaultModel" "alive" "[Z" : Cond) ∈ TG := List.mem_of_getElem? (i := 52) rfl
theorem tg_53 : (.fieldLink "PageVaultModel" 13 "PageVaultModel" "ends" "[I" : Cond) ∈ TG := List.mem_of_getElem? (i := 53) rfl
theorem tg_54 : (.fieldLink "PageVaultModel" 17 "PageVaultModel" "pageSpace" "[I" : Cond) ∈ TG := List.mem_of_getElem? (i := 54) rfl
theorem tg_55 : (.fieldLink "PageVaultModel" 20 "PageVaultModel" "pageNumber" "[I" : Cond) ∈ TG := List.mem_of_getElem? (i := 55) rfl
theorem tg_56 : (.fieldLink "PageVaultModel" 23 "PageVaultModel" "pageFlags" "[I" : Cond) ∈ TG := List.mem_of_getElem? (i := 56) rfl
theorem tg_57 : (.fieldLink "PageVaultModel" 26 "PageVaultModel" "pageKin" "[I" : Cond) ∈ TG := List.mem_of_getElem? (i := 57) rfl
theorem tg_58 : (.fieldLink "PageVaultModel" 29 "PageVaultModel" "regionSpace" "[I" : Cond) ∈ TG := List.mem_of_getElem? (i := 58) rfl
theorem tg_59 : (.fieldLink "PageVaultModel" 32 "PageVaultModel" "regionNumber" "[I" : Cond) ∈ TG := List.mem_of_getElem? (i := 59) rfl
theorem tg_60 : (.fieldLink "PageVaultModel" 35 "PageVaultModel" "deed" "[I" : Cond) ∈ TG := List.mem_of_getElem? (i := 60) rfl
theorem tg_61 : (.fieldLink "PageVaultModel" 38 "PageVaultModel" "who" "[I" : Cond) ∈ TG := List.mem_of_getElem? (i := 61) rfl
theorem tg_62 : (.fieldLink "PageVaultModel" 41 "PageVaultModel" "where" "[I" : Cond) ∈ TG := List.mem_of_getElem? (i := 62) rfl
theorem tg_63 : (.fieldLink "PageVaultModel" 44 "PageVaultModel" "much" "[I" : Cond) ∈ TG := List.mem_of_getElem? (i := 63) rfl
theorem tg_64 : (.fieldLink "PageVaultModel" 47 "PageVaultModel" "what" "[I" : Cond) ∈ TG := List.mem_of_getElem? (i := 64) rfl
theorem tg_65 : (.fieldLink "PageVaultModel" 50 "PageVaultModel" "frames" "I" : Cond) ∈ TG := List.mem_of_getElem? (i := 65) rfl
theorem tg_66 : (.fieldLink "PageVaultModel" 54 "PageVaultModel" "deeds" "I" : Cond) ∈ TG := List.mem_of_getElem? (i := 66) rfl
theorem tg_67 : (.fieldLink "PageVaultModel" 57 "PageVaultModel" "pages" "I" : Cond) ∈ TG := List.mem_of_getElem? (i := 67) rfl
theorem tg_68 : (.code y_M_firstOfKin b_M_firstOfKin 3 (some .boolean) : Cond) ∈ TG := List.mem_of_getElem? (i := 68) rfl
theorem tg_69 : (.methodLink "PageVaultModel" 63 y_M_firstOfKin : Cond) ∈ TG := List.mem_of_getElem? (i := 69) rfl
theorem tg_70 : (.instanceMethod y_M_firstOfKin : Cond) ∈ TG := List.mem_of_getElem? (i := 70) rfl
theorem tg_71 : (.selects "PageVaultModel" y_M_firstOfKin y_M_firstOfKin : Cond) ∈ TG := List.mem_of_getElem? (i := 71) rfl
theorem tg_72 : (.fieldLink "PageVaultModel" 60 "PageVaultModel" "regions" "I" : Cond) ∈ TG := List.mem_of_getElem? (i := 72) rfl
theorem tg_73 : (.code y_M_freeFrames b_M_freeFrames 3 (some .int) : Cond) ∈ TG := List.mem_of_getElem? (i := 73) rfl
theorem tg_74 : (.methodLink "PageVaultModel" 67 y_M_freeFrames : Cond) ∈ TG := List.mem_of_getElem? (i := 74) rfl
theorem tg_75 : (.instanceMethod y_M_freeFrames : Cond) ∈ TG := List.mem_of_getElem? (i := 75) rfl
theorem tg_76 : (.selects "PageVaultModel" y_M_freeFrames y_M_freeFrames : Cond) ∈ TG := List.mem_of_getElem? (i := 76) rfl
theorem tg_77 : (.code y_M_hasRegion b_M_hasRegion 4 (some .boolean) : Cond) ∈ TG := List.mem_of_getElem? (i := 77) rfl
theorem tg_78 : (.methodLink "PageVaultModel" 71 y_M_hasRegion : Cond) ∈ TG := List.mem_of_getElem? (i := 78) rfl
theorem tg_79 : (.instanceMethod y_M_hasRegion : Cond) ∈ TG := List.mem_of_getElem? (i := 79) rfl
theorem tg_80 : (.selects "PageVaultModel" y_M_hasRegion y_M_hasRegion : Cond) ∈ TG := List.mem_of_getElem? (i := 80) rfl
theorem tg_81 : (.fieldLink "PageVaultModel" 75 "PageVaultModel" "kins" "I" : Cond) ∈ TG := List.mem_of_getElem? (i := 81) rfl
theorem tg_82 : (.code y_M_add b_M_add 5 none : Cond) ∈ TG := List.mem_of_getElem? (i := 82) rfl
theorem tg_83 : (.methodLink "PageVaultModel" 78 y_M_add : Cond) ∈ TG := List.mem_of_getElem? (i := 83) rfl
theorem tg_84 : (.instanceMethod y_M_add : Cond) ∈ TG := List.mem_of_getElem? (i := 84) rfl
theorem tg_85 : (.selects "PageVaultModel" y_M_add y_M_add : Cond) ∈ TG := List.mem_of_getElem? (i := 85) rfl
theorem tg_86 : (.code y_M_note b_M_note 6 none : Cond) ∈ TG := List.mem_of_getElem? (i := 86) rfl
theorem tg_87 : (.methodLink "PageVaultModel" 82 y_M_note : Cond) ∈ TG := List.mem_of_getElem? (i := 87) rfl
theorem tg_88 : (.instanceMethod y_M_note : Cond) ∈ TG := List.mem_of_getElem? (i := 88) rfl
theorem tg_89 : (.selects "PageVaultModel" y_M_note y_M_note : Cond) ∈ TG := List.mem_of_getElem? (i := 89) rfl
theorem tg_90 : (.constant "PageVaultModel" 86 1073741824 : Cond) ∈ TG := List.mem_of_getElem? (i := 90) rfl
theorem tg_91 : (.code y_M_row b_M_row 4 (some .int) : Cond) ∈ TG := List.mem_of_getElem? (i := 91) rfl
theorem tg_92 : (.methodLink "PageVaultModel" 87 y_M_row : Cond) ∈ TG := List.mem_of_getElem? (i := 92) rfl
theorem tg_93 : (.instanceMethod y_M_row : Cond) ∈ TG := List.mem_of_getElem? (i := 93) rfl
theorem tg_94 : (.selects "PageVaultModel" y_M_row y_M_row : Cond) ∈ TG := List.mem_of_getElem? (i := 94) rfl
theorem tg_95 : (.code y_M_sharers b_M_sharers 4 (some .int) : Cond) ∈ TG := List.mem_of_getElem? (i := 95) rfl
theorem tg_96 : (.methodLink "PageVaultModel" 98 y_M_sharers : Cond) ∈ TG := List.mem_of_getElem? (i := 96) rfl
theorem tg_97 : (.instanceMethod y_M_sharers : Cond) ∈ TG := List.mem_of_getElem? (i := 97) rfl
theorem tg_98 : (.selects "PageVaultModel" y_M_sharers y_M_sharers : Cond) ∈ TG := List.mem_of_getElem? (i := 98) rfl
theorem tg_99 : (.code y_M_room b_M_room 3 (some .boolean) : Cond) ∈ TG := List.mem_of_getElem? (i := 99) rfl
theorem tg_100 : (.methodLink "PageVaultModel" 91 y_M_room : Cond) ∈ TG := List.mem_of_getElem? (i := 100) rfl
theorem tg_101 : (.instanceMethod y_M_room : Cond) ∈ TG := List.mem_of_getElem? (i := 101) rfl
theorem tg_102 : (.selects "PageVaultModel" y_M_room y_M_room : Cond) ∈ TG := List.mem_of_getElem? (i := 102) rfl
theorem tg_103 : (.code y_M_addEmpty b_M_addEmpty 4 none : Cond) ∈ TG := List.mem_of_getElem? (i := 103) rfl
theorem tg_104 : (.methodLink "PageVaultModel" 94 y_M_addEmpty : Cond) ∈ TG := List.mem_of_getElem? (i := 104) rfl
theorem tg_105 : (.instanceMethod y_M_addEmpty : Cond) ∈ TG := List.mem_of_getElem? (i := 105) rfl
theorem tg_106 : (.selects "PageVaultModel" y_M_addEmpty y_M_addEmpty : Cond) ∈ TG := List.mem_of_getElem? (i := 106) rfl
theorem tg_107 : (.code y_M_lives b_M_lives 2 (some .boolean) : Cond) ∈ TG := List.mem_of_getElem? (i := 107) rfl
theorem tg_108 : (.methodLink "PageVaultModel" 105 y_M_lives : Cond) ∈ TG := List.mem_of_getElem? (i := 108) rfl
theorem tg_109 : (.instanceMethod y_M_lives : Cond) ∈ TG := List.mem_of_getElem? (i := 109) rfl
theorem tg_110 : (.selects "PageVaultModel" y_M_lives y_M_lives : Cond) ∈ TG := List.mem_of_getElem? (i := 110) rfl
theorem tg_111 : (.fieldLink "PageVaultModel" 102 "PageVaultModel" "lastTrap" "I" : Cond) ∈ TG := List.mem_of_getElem? (i := 111) rfl
theorem tg_112 : (.code y_M_touch b_M_touch 5 (some .int) : Cond) ∈ TG := List.mem_of_getElem? (i := 112) rfl
theorem tg_113 : (.methodLink "PageVaultModel" 108 y_M_touch : Cond) ∈ TG := List.mem_of_getElem? (i := 113) rfl
theorem tg_114 : (.instanceMethod y_M_touch : Cond) ∈ TG := List.mem_of_getElem? (i := 114) rfl
theorem tg_115 : (.selects "PageVaultModel" y_M_touch y_M_touch : Cond) ∈ TG := List.mem_of_getElem? (i := 115) rfl
theorem tg_116 : (.code y_M_byteOf b_M_byteOf 9 (some .int) : Cond) ∈ TG := List.mem_of_getElem? (i := 116) rfl
theorem tg_117 : (.methodLink "PageVaultModel" 112 y_M_byteOf : Cond) ∈ TG := List.mem_of_getElem? (i := 117) rfl
theorem tg_118 : (.instanceMethod y_M_byteOf : Cond) ∈ TG := List.mem_of_getElem? (i := 118) rfl
theorem tg_119 : (.selects "PageVaultModel" y_M_byteOf y_M_byteOf : Cond) ∈ TG := List.mem_of_getElem? (i := 119) rfl
theorem tg_120 : (.code y_M_unused b_M_unused 2 (some .int) : Cond) ∈ TG := List.mem_of_getElem? (i := 120) rfl
theorem tg_121 : (.methodLink "PageVaultModel" 115 y_M_unused : Cond) ∈ TG := List.mem_of_getElem? (i := 121) rfl
theorem tg_122 : (.instanceMethod y_M_unused : Cond) ∈ TG := List.mem_of_getElem? (i := 122) rfl
theorem tg_123 : (.selects "PageVaultModel" y_M_unused y_M_unused : Cond) ∈ TG := List.mem_of_getElem? (i := 123) rfl
theorem tg_124 : (.code y_M_removePages b_M_removePages 5 none : Cond) ∈ TG := List.mem_of_getElem? (i := 124) rfl
theorem tg_125 : (.methodLink "PageVaultModel" 118 y_M_removePages : Cond) ∈ TG := List.mem_of_getElem? (i := 125) rfl
theorem tg_126 : (.instanceMethod y_M_removePages : Cond) ∈ TG := List.mem_of_getElem? (i := 126) rfl
theorem tg_127 : (.selects "PageVaultModel" y_M_removePages y_M_removePages : Cond) ∈ TG := List.mem_of_getElem? (i := 127) rfl
theorem tg_128 : (.code y_M_removeRegions b_M_removeRegions 4 none : Cond) ∈ TG := List.mem_of_getElem? (i := 128) rfl
theorem tg_129 : (.methodLink "PageVaultModel" 122 y_M_removeRegions : Cond) ∈ TG := List.mem_of_getElem? (i := 129) rfl
theorem tg_130 : (.instanceMethod y_M_removeRegions : Cond) ∈ TG := List.mem_of_getElem? (i := 130) rfl
theorem tg_131 : (.selects "PageVaultModel" y_M_removeRegions y_M_removeRegions : Cond) ∈ TG := List.mem_of_getElem? (i := 131) rfl
theorem tg_132 : (.code y_M_peopled b_M_peopled 6 (some .int) : Cond) ∈ TG := List.mem_of_getElem? (i := 132) rfl
theorem tg_133 : (.methodLink "PageVaultModel" 126 y_M_peopled : Cond) ∈ TG := List.mem_of_getElem? (i := 133) rfl
theorem tg_134 : (.instanceMethod y_M_peopled : Cond) ∈ TG := List.mem_of_getElem? (i := 134) rfl
theorem tg_135 : (.selects "PageVaultModel" y_M_peopled y_M_peopled : Cond) ∈ TG := List.mem_of_getElem? (i := 135) rfl
theorem tg_136 : (.constantLong "PageVaultModel" 129 1073741824 : Cond) ∈ TG := List.mem_of_getElem? (i := 136) rfl
theorem tg_137 : (.code y_M_aimed b_M_aimed 5 (some .boolean) : Cond) ∈ TG := List.mem_of_getElem? (i := 137) rfl
theorem tg_138 : (.methodLink "PageVaultModel" 131 y_M_aimed : Cond) ∈ TG := List.mem_of_getElem? (i := 138) rfl
theorem tg_139 : (.instanceMethod y_M_aimed : Cond) ∈ TG := List.mem_of_getElem? (i := 139) rfl
theorem tg_140 : (.selects "PageVaultModel" y_M_aimed y_M_aimed : Cond) ∈ TG := List.mem_of_getElem? (i := 140) rfl
theorem tg_141 : (.code y_M_number b_M_number 6 (some .int) : Cond) ∈ TG := List.mem_of_getElem? (i := 141) rfl
theorem tg_142 : (.methodLink "PageVaultModel" 135 y_M_number : Cond) ∈ TG := List.mem_of_getElem? (i := 142) rfl
theorem tg_143 : (.instanceMethod y_M_number : Cond) ∈ TG := List.mem_of_getElem? (i := 143) rfl
theorem tg_144 : (.selects "PageVaultModel" y_M_number y_M_number : Cond) ∈ TG := List.mem_of_getElem? (i := 144) rfl
theorem tg_145 : (.code y_M_walk b_M_walk 6 (some .int) : Cond) ∈ TG := List.mem_of_getElem? (i := 145) rfl
theorem tg_146 : (.methodLink "PageVaultModel" 138 y_M_walk : Cond) ∈ TG := List.mem_of_getElem? (i := 146) rfl
theorem tg_147 : (.instanceMethod y_M_walk : Cond) ∈ TG := List.mem_of_getElem? (i := 147) rfl
theorem tg_148 : (.selects "PageVaultModel" y_M_walk y_M_walk : Cond) ∈ TG := List.mem_of_getElem? (i := 148) rfl
theorem tg_149 : (.code y_M_came b_M_came 4 none : Cond) ∈ TG := List.mem_of_getElem? (i := 149) rfl
theorem tg_150 : (.methodLink "PageVaultModel" 142 y_M_came : Cond) ∈ TG := List.mem_of_getElem? (i := 150) rfl
theorem tg_151 : (.instanceMethod y_M_came : Cond) ∈ TG := List.mem_of_getElem? (i := 151) rfl
theorem tg_152 : (.selects "PageVaultModel" y_M_came y_M_came : Cond) ∈ TG := List.mem_of_getElem? (i := 152) rfl
theorem tg_153 : (.code y_S_isOpen b_S_isOpen 1 (some .boolean) : Cond) ∈ TG := List.mem_of_getElem? (i := 153) rfl
theorem tg_154 : (.methodLink "PageVault" 131 y_S_isOpen : Cond) ∈ TG := List.mem_of_getElem? (i := 154) rfl
theorem tg_155 : (.instanceMethod y_S_isOpen : Cond) ∈ TG := List.mem_of_getElem? (i := 155) rfl
theorem tg_156 : (.selects "PageVault$Space" y_S_isOpen y_S_isOpen : Cond) ∈ TG := List.mem_of_getElem? (i := 156) rfl
theorem tg_157 : (.code y_V_leastUnused b_V_leastUnused 2 (some .int) : Cond) ∈ TG := List.mem_of_getElem? (i := 157) rfl
theorem tg_158 : (.methodLink "PageVault" 40 y_V_leastUnused : Cond) ∈ TG := List.mem_of_getElem? (i := 158) rfl
theorem tg_159 : (.instanceMethod y_V_leastUnused : Cond) ∈ TG := List.mem_of_getElem? (i := 159) rfl
theorem tg_160 : (.selects "PageVault" y_V_leastUnused y_V_leastUnused : Cond) ∈ TG := List.mem_of_getElem? (i := 160) rfl
theorem tg_161 : (.code y_F_spare b_F_spare 1 (some .int) : Cond) ∈ TG := List.mem_of_getElem? (i := 161) rfl
theorem tg_162 : (.methodLink "PageVault" 44 y_F_spare : Cond) ∈ TG := List.mem_of_getElem? (i := 162) rfl
theorem tg_163 : (.instanceMethod y_F_spare : Cond) ∈ TG := List.mem_of_getElem? (i := 163) rfl
theorem tg_164 : (.selects "PageVault$Frames" y_F_spare y_F_spare : Cond) ∈ TG := List.mem_of_getElem? (i := 164) rfl
theorem tg_165 : (.code y_A_fill b_A_fill 4 none : Cond) ∈ TG := List.mem_of_getElem? (i := 165) rfl
theorem tg_166 : (.initialized "java/util/Arrays" : Cond) ∈ TG := List.mem_of_getElem? (i := 166) rfl
theorem tg_167 : (.methodLink "PageVault$Frames" 24 y_A_fill : Cond) ∈ TG := List.mem_of_getElem? (i := 167) rfl
theorem tg_168 : (.static y_A_fill : Cond) ∈ TG := List.mem_of_getElem? (i := 168) rfl
theorem tg_169 : (.code y_F_take b_F_take 2 (some .int) : Cond) ∈ TG := List.mem_of_getElem? (i := 169) rfl
theorem tg_170 : (.methodLink "PageVault$Space" 22 y_F_take : Cond) ∈ TG := List.mem_of_getElem? (i := 170) rfl
theorem tg_171 : (.instanceMethod y_F_take : Cond) ∈ TG := List.mem_of_getElem? (i := 171) rfl
theorem tg_172 : (.selects "PageVault$Frames" y_F_take y_F_take : Cond) ∈ TG := List.mem_of_getElem? (i := 172) rfl
theorem tg_173 : (.fieldLink "PageVault$Space" 19 "PageVault$Space" "length" "I" : Cond) ∈ TG := List.mem_of_getElem? (i := 173) rfl
theorem tg_174 : (.code y_S_open b_S_open 2 none : Cond) ∈ TG := List.mem_of_getElem? (i := 174) rfl
theorem tg_175 : (.methodLink "PageVault" 47 y_S_open : Cond) ∈ TG := List.mem_of_getElem? (i := 175) rfl
theorem tg_176 : (.instanceMethod y_S_open : Cond) ∈ TG := List.mem_of_getElem? (i := 176) rfl
theorem tg_177 : (.selects "PageVault$Space" y_S_open y_S_open : Cond) ∈ TG := List.mem_of_getElem? (i := 177) rfl
theorem tg_178 : (.code y_V_find b_V_find 2 (some (.object "PageVault$Space")) : Cond) ∈ TG := List.mem_of_getElem? (i := 178) rfl
theorem tg_179 : (.methodLink "PageVault" 50 y_V_find : Cond) ∈ TG := List.mem_of_getElem? (i := 179) rfl
theorem tg_180 : (.instanceMethod y_V_find : Cond) ∈ TG := List.mem_of_getElem? (i := 180) rfl
theorem tg_181 : (.selects "PageVault" y_V_find y_V_find : Cond) ∈ TG := List.mem_of_getElem? (i := 181) rfl
theorem tg_182 : (.code y_F_isFrame b_F_isFrame 2 (some .boolean) : Cond) ∈ TG := List.mem_of_getElem? (i := 182) rfl
theorem tg_183 : (.methodLink "PageVault$Frames" 30 y_F_isFrame : Cond) ∈ TG := List.mem_of_getElem? (i := 183) rfl
theorem tg_184 : (.instanceMethod y_F_isFrame : Cond) ∈ TG := List.mem_of_getElem? (i := 184) rfl
theorem tg_185 : (.selects "PageVault$Frames" y_F_isFrame y_F_isFrame : Cond) ∈ TG := List.mem_of_getElem? (i := 185) rfl
theorem tg_186 : (.code y_F_release b_F_release 2 none : Cond) ∈ TG := List.mem_of_getElem? (i := 186) rfl
theorem tg_187 : (.methodLink "PageVault$Space" 36 y_F_release : Cond) ∈ TG := List.mem_of_getElem? (i := 187) rfl
theorem tg_188 : (.instanceMethod y_F_release : Cond) ∈ TG := List.mem_of_getElem? (i := 188) rfl
theorem tg_189 : (.selects "PageVault$Frames" y_F_release y_F_release : Cond) ∈ TG := List.mem_of_getElem? (i := 189) rfl
theorem tg_190 : (.code y_F_word b_F_word 3 (some .int) : Cond) ∈ TG := List.mem_of_getElem? (i := 190) rfl
theorem tg_191 : (.methodLink "PageVault$Space" 59 y_F_word : Cond) ∈ TG := List.mem_of_getElem? (i := 191) rfl
theorem tg_192 : (.instanceMethod y_F_word : Cond) ∈ TG := List.mem_of_getElem? (i := 192) rfl
theorem tg_193 : (.selects "PageVault$Frames" y_F_word y_F_word : Cond) ∈ TG := List.mem_of_getElem? (i := 193) rfl
theorem tg_194 : (.code y_V_frameOf b_V_frameOf 1 (some .int) : Cond) ∈ TG := List.mem_of_getElem? (i := 194) rfl
theorem tg_195 : (.static y_V_frameOf : Cond) ∈ TG := List.mem_of_getElem? (i := 195) rfl
theorem tg_196 : (.code y_S_tableOf b_S_tableOf 2 (some .int) : Cond) ∈ TG := List.mem_of_getElem? (i := 196) rfl
theorem tg_197 : (.methodLink "PageVault$Space" 32 y_S_tableOf : Cond) ∈ TG := List.mem_of_getElem? (i := 197) rfl
theorem tg_198 : (.instanceMethod y_S_tableOf : Cond) ∈ TG := List.mem_of_getElem? (i := 198) rfl
theorem tg_199 : (.selects "PageVault$Space" y_S_tableOf y_S_tableOf : Cond) ∈ TG := List.mem_of_getElem? (i := 199) rfl
theorem tg_200 : (.code y_F_setWord b_F_setWord 4 none : Cond) ∈ TG := List.mem_of_getElem? (i := 200) rfl
theorem tg_201 : (.methodLink "PageVault$Space" 62 y_F_setWord : Cond) ∈ TG := List.mem_of_getElem? (i := 201) rfl
theorem tg_202 : (.instanceMethod y_F_setWord : Cond) ∈ TG := List.mem_of_getElem? (i := 202) rfl
theorem tg_203 : (.selects "PageVault$Frames" y_F_setWord y_F_setWord : Cond) ∈ TG := List.mem_of_getElem? (i := 203) rfl
theorem tg_204 : (.code y_S_removePagesFrom b_S_removePagesFrom 7 none : Cond) ∈ TG := List.mem_of_getElem? (i := 204) rfl
theorem tg_205 : (.methodLink "PageVault$Space" 28 y_S_removePagesFrom : Cond) ∈ TG := List.mem_of_getElem? (i := 205) rfl
theorem tg_206 : (.instanceMethod y_S_removePagesFrom : Cond) ∈ TG := List.mem_of_getElem? (i := 206) rfl
theorem tg_207 : (.selects "PageVault$Space" y_S_removePagesFrom y_S_removePagesFrom : Cond) ∈ TG := List.mem_of_getElem? (i := 207) rfl
theorem tg_208 : (.code y_S_close b_S_close 2 none : Cond) ∈ TG := List.mem_of_getElem? (i := 208) rfl
theorem tg_209 : (.methodLink "PageVault" 54 y_S_close : Cond) ∈ TG := List.mem_of_getElem? (i := 209) rfl
theorem tg_210 : (.instanceMethod y_S_close : Cond) ∈ TG := List.mem_of_getElem? (i := 210) rfl
theorem tg_211 : (.selects "PageVault$Space" y_S_close y_S_close : Cond) ∈ TG := List.mem_of_getElem? (i := 211) rfl
theorem tg_212 : (.code y_S_hasPageIn b_S_hasPageIn 4 (some .boolean) : Cond) ∈ TG := List.mem_of_getElem? (i := 212) rfl
theorem tg_213 : (.methodLink "PageVault$Space" 42 y_S_hasPageIn : Cond) ∈ TG := List.mem_of_getElem? (i := 213) rfl
theorem tg_214 : (.instanceMethod y_S_hasPageIn : Cond) ∈ TG := List.mem_of_getElem? (i := 214) rfl
theorem tg_215 : (.selects "PageVault$Space" y_S_hasPageIn y_S_hasPageIn : Cond) ∈ TG := List.mem_of_getElem? (i := 215) rfl
theorem tg_216 : (.code y_S_framesOfCopy b_S_framesOfCopy 3 (some .int) : Cond) ∈ TG := List.mem_of_getElem? (i := 216) rfl
theorem tg_217 : (.methodLink "PageVault" 57 y_S_framesOfCopy : Cond) ∈ TG := List.mem_of_getElem? (i := 217) rfl
theorem tg_218 : (.instanceMethod y_S_framesOfCopy : Cond) ∈ TG := List.mem_of_getElem? (i := 218) rfl
theorem tg_219 : (.selects "PageVault$Space" y_S_framesOfCopy y_S_framesOfCopy : Cond) ∈ TG := List.mem_of_getElem? (i := 219) rfl
theorem tg_220 : (.code y_F_hold b_F_hold 2 none : Cond) ∈ TG := List.mem_of_getElem? (i := 220) rfl
theorem tg_221 : (.methodLink "PageVault$Space" 91 y_F_hold : Cond) ∈ TG := List.mem_of_getElem? (i := 221) rfl
theorem tg_222 : (.instanceMethod y_F_hold : Cond) ∈ TG := List.mem_of_getElem? (i := 222) rfl
theorem tg_223 : (.selects "PageVault$Frames" y_F_hold y_F_hold : Cond) ∈ TG := List.mem_of_getElem? (i := 223) rfl
theorem tg_224 : (.code y_V_entryOf b_V_entryOf 2 (some .int) : Cond) ∈ TG := List.mem_of_getElem? (i := 224) rfl
theorem tg_225 : (.static y_V_entryOf : Cond) ∈ TG := List.mem_of_getElem? (i := 225) rfl
theorem tg_226 : (.code y_S_addTable b_S_addTable 3 (some .int) : Cond) ∈ TG := List.mem_of_getElem? (i := 226) rfl
theorem tg_227 : (.methodLink "PageVault$Space" 69 y_S_addTable : Cond) ∈ TG := List.mem_of_getElem? (i := 227) rfl
theorem tg_228 : (.instanceMethod y_S_addTable : Cond) ∈ TG := List.mem_of_getElem? (i := 228) rfl
theorem tg_229 : (.selects "PageVault$Space" y_S_addTable y_S_addTable : Cond) ∈ TG := List.mem_of_getElem? (i := 229) rfl
theorem tg_230 : (.methodLink "PageVault$Frames" 34 arraycopyName : Cond) ∈ TG := List.mem_of_getElem? (i := 230) rfl
theorem tg_231 : (.native arraycopyName : Cond) ∈ TG := List.mem_of_getElem? (i := 231) rfl
theorem tg_232 : (.static arraycopyName : Cond) ∈ TG := List.mem_of_getElem? (i := 232) rfl
theorem tg_233 : (.initialized "java/lang/System" : Cond) ∈ TG := List.mem_of_getElem? (i := 233) rfl
theorem tg_234 : (.code y_F_copyWords b_F_copyWords 3 none : Cond) ∈ TG := List.mem_of_getElem? (i := 234) rfl
theorem tg_235 : (.methodLink "PageVault$Space" 81 y_F_copyWords : Cond) ∈ TG := List.mem_of_getElem? (i := 235) rfl
theorem tg_236 : (.instanceMethod y_F_copyWords : Cond) ∈ TG := List.mem_of_getElem? (i := 236) rfl
theorem tg_237 : (.selects "PageVault$Frames" y_F_copyWords y_F_copyWords : Cond) ∈ TG := List.mem_of_getElem? (i := 237) rfl
theorem tg_238 : (.code y_S_shareRegion b_S_shareRegion 5 none : Cond) ∈ TG := List.mem_of_getElem? (i := 238) rfl
theorem tg_239 : (.methodLink "PageVault$Space" 46 y_S_shareRegion : Cond) ∈ TG := List.mem_of_getElem? (i := 239) rfl
theorem tg_240 : (.instanceMethod y_S_shareRegion : Cond) ∈ TG := List.mem_of_getElem? (i := 240) rfl
theorem tg_241 : (.selects "PageVault$Space" y_S_shareRegion y_S_shareRegion : Cond) ∈ TG := List.mem_of_getElem? (i := 241) rfl
theorem tg_242 : (.methodLink "PageVault$Space" 39 y_S_open : Cond) ∈ TG := List.mem_of_getElem? (i := 242) rfl
theorem tg_243 : (.code y_S_openAsCopy b_S_openAsCopy 3 none : Cond) ∈ TG := List.mem_of_getElem? (i := 243) rfl
theorem tg_244 : (.methodLink "PageVault" 60 y_S_openAsCopy : Cond) ∈ TG := List.mem_of_getElem? (i := 244) rfl
theorem tg_245 : (.instanceMethod y_S_openAsCopy : Cond) ∈ TG := List.mem_of_getElem? (i := 245) rfl
theorem tg_246 : (.selects "PageVault$Space" y_S_openAsCopy y_S_openAsCopy : Cond) ∈ TG := List.mem_of_getElem? (i := 246) rfl
theorem tg_247 : (.constant "PageVault" 158 1073741824 : Cond) ∈ TG := List.mem_of_getElem? (i := 247) rfl
theorem tg_248 : (.code y_V_isUsers b_V_isUsers 1 (some .boolean) : Cond) ∈ TG := List.mem_of_getElem? (i := 248) rfl
theorem tg_249 : (.methodLink "PageVault" 135 y_V_isUsers : Cond) ∈ TG := List.mem_of_getElem? (i := 249) rfl
theorem tg_250 : (.static y_V_isUsers : Cond) ∈ TG := List.mem_of_getElem? (i := 250) rfl
theorem tg_251 : (.code y_V_beginsPage b_V_beginsPage 1 (some .boolean) : Cond) ∈ TG := List.mem_of_getElem? (i := 251) rfl
theorem tg_252 : (.methodLink "PageVault" 64 y_V_beginsPage : Cond) ∈ TG := List.mem_of_getElem? (i := 252) rfl
theorem tg_253 : (.static y_V_beginsPage : Cond) ∈ TG := List.mem_of_getElem? (i := 253) rfl
theorem tg_254 : (.code y_V_areFlags b_V_areFlags 1 (some .boolean) : Cond) ∈ TG := List.mem_of_getElem? (i := 254) rfl
theorem tg_255 : (.methodLink "PageVault" 68 y_V_areFlags : Cond) ∈ TG := List.mem_of_getElem? (i := 255) rfl
theorem tg_256 : (.static y_V_areFlags : Cond) ∈ TG := List.mem_of_getElem? (i := 256) rfl
theorem tg_257 : (.code y_S_slotOf b_S_slotOf 1 (some .int) : Cond) ∈ TG := List.mem_of_getElem? (i := 257) rfl
theorem tg_258 : (.methodLink "PageVault$Space" 56 y_S_slotOf : Cond) ∈ TG := List.mem_of_getElem? (i := 258) rfl
theorem tg_259 : (.static y_S_slotOf : Cond) ∈ TG := List.mem_of_getElem? (i := 259) rfl
theorem tg_260 : (.code y_S_entryAt b_S_entryAt 2 (some .int) : Cond) ∈ TG := List.mem_of_getElem? (i := 260) rfl
theorem tg_261 : (.methodLink "PageVault" 71 y_S_entryAt : Cond) ∈ TG := List.mem_of_getElem? (i := 261) rfl
theorem tg_262 : (.instanceMethod y_S_entryAt : Cond) ∈ TG := List.mem_of_getElem? (i := 262) rfl
theorem tg_263 : (.selects "PageVault$Space" y_S_entryAt y_S_entryAt : Cond) ∈ TG := List.mem_of_getElem? (i := 263) rfl
theorem tg_264 : (.methodLink "PageVault$Space" 66 y_F_spare : Cond) ∈ TG := List.mem_of_getElem? (i := 264) rfl
theorem tg_265 : (.code y_S_addPage b_S_addPage 6 (some .int) : Cond) ∈ TG := List.mem_of_getElem? (i := 265) rfl
theorem tg_266 : (.methodLink "PageVault" 75 y_S_addPage : Cond) ∈ TG := List.mem_of_getElem? (i := 266) rfl
theorem tg_267 : (.instanceMethod y_S_addPage : Cond) ∈ TG := List.mem_of_getElem? (i := 267) rfl
theorem tg_268 : (.selects "PageVault$Space" y_S_addPage y_S_addPage : Cond) ∈ TG := List.mem_of_getElem? (i := 268) rfl
theorem tg_269 : (.methodLink "PageVault$Space" 50 Lib.Math.max.name : Cond) ∈ TG := List.mem_of_getElem? (i := 269) rfl
theorem tg_270 : (.code y_S_reach b_S_reach 2 none : Cond) ∈ TG := List.mem_of_getElem? (i := 270) rfl
theorem tg_271 : (.methodLink "PageVault" 78 y_S_reach : Cond) ∈ TG := List.mem_of_getElem? (i := 271) rfl
theorem tg_272 : (.instanceMethod y_S_reach : Cond) ∈ TG := List.mem_of_getElem? (i := 272) rfl
theorem tg_273 : (.selects "PageVault$Space" y_S_reach y_S_reach : Cond) ∈ TG := List.mem_of_getElem? (i := 273) rfl
theorem tg_274 : (.methodLink "PageVault" 81 y_V_frameOf : Cond) ∈ TG := List.mem_of_getElem? (i := 274) rfl
theorem tg_275 : (.methodLink "PageVault" 84 y_V_entryOf : Cond) ∈ TG := List.mem_of_getElem? (i := 275) rfl
theorem tg_276 : (.code y_S_setEntry b_S_setEntry 3 none : Cond) ∈ TG := List.mem_of_getElem? (i := 276) rfl
theorem tg_277 : (.methodLink "PageVault" 87 y_S_setEntry : Cond) ∈ TG := List.mem_of_getElem? (i := 277) rfl
theorem tg_278 : (.instanceMethod y_S_setEntry : Cond) ∈ TG := List.mem_of_getElem? (i := 278) rfl
theorem tg_279 : (.selects "PageVault$Space" y_S_setEntry y_S_setEntry : Cond) ∈ TG := List.mem_of_getElem? (i := 279) rfl
theorem tg_280 : (.code y_S_length b_S_length 1 (some .int) : Cond) ∈ TG := List.mem_of_getElem? (i := 280) rfl
theorem tg_281 : (.methodLink "PageVault" 91 y_S_length : Cond) ∈ TG := List.mem_of_getElem? (i := 281) rfl
theorem tg_282 : (.instanceMethod y_S_length : Cond) ∈ TG := List.mem_of_getElem? (i := 282) rfl
theorem tg_283 : (.selects "PageVault$Space" y_S_length y_S_length : Cond) ∈ TG := List.mem_of_getElem? (i := 283) rfl
theorem tg_284 : (.constantLong "PageVault" 94 1073741824 : Cond) ∈ TG := List.mem_of_getElem? (i := 284) rfl
theorem tg_285 : (.code y_S_resize b_S_resize 2 none : Cond) ∈ TG := List.mem_of_getElem? (i := 285) rfl
theorem tg_286 : (.methodLink "PageVault" 96 y_S_resize : Cond) ∈ TG := List.mem_of_getElem? (i := 286) rfl
theorem tg_287 : (.instanceMethod y_S_resize : Cond) ∈ TG := List.mem_of_getElem? (i := 287) rfl
theorem tg_288 : (.selects "PageVault$Space" y_S_resize y_S_resize : Cond) ∈ TG := List.mem_of_getElem? (i := 288) rfl
theorem tg_289 : (.fieldLink "PageVault" 103 "PageVault" "latestTrap" "I" : Cond) ∈ TG := List.mem_of_getElem? (i := 289) rfl
theorem tg_290 : (.code y_V_isStraight b_V_isStraight 2 (some .boolean) : Cond) ∈ TG := List.mem_of_getElem? (i := 290) rfl
theorem tg_291 : (.methodLink "PageVault" 107 y_V_isStraight : Cond) ∈ TG := List.mem_of_getElem? (i := 291) rfl
theorem tg_292 : (.static y_V_isStraight : Cond) ∈ TG := List.mem_of_getElem? (i := 292) rfl
theorem tg_293 : (.code y_V_trapped b_V_trapped 2 (some .int) : Cond) ∈ TG := List.mem_of_getElem? (i := 293) rfl
theorem tg_294 : (.methodLink "PageVault" 111 y_V_trapped : Cond) ∈ TG := List.mem_of_getElem? (i := 294) rfl
theorem tg_295 : (.instanceMethod y_V_trapped : Cond) ∈ TG := List.mem_of_getElem? (i := 295) rfl
theorem tg_296 : (.selects "PageVault" y_V_trapped y_V_trapped : Cond) ∈ TG := List.mem_of_getElem? (i := 296) rfl
theorem tg_297 : (.code y_V_touch b_V_touch 6 (some .int) : Cond) ∈ TG := List.mem_of_getElem? (i := 297) rfl
theorem tg_298 : (.methodLink "PageVault" 138 y_V_touch : Cond) ∈ TG := List.mem_of_getElem? (i := 298) rfl
theorem tg_299 : (.instanceMethod y_V_touch : Cond) ∈ TG := List.mem_of_getElem? (i := 299) rfl
theorem tg_300 : (.selects "PageVault" y_V_touch y_V_touch : Cond) ∈ TG := List.mem_of_getElem? (i := 300) rfl
set_option maxRecDepth 100000 in
theorem tg_301 : (.code y_F_wordOf b_F_wordOf 1 (some .int) : Cond) ∈ TG := List.mem_of_getElem? (i := 301) rfl
set_option maxRecDepth 100000 in
theorem tg_302 : (.methodLink "PageVault$Frames" 40 y_F_wordOf : Cond) ∈ TG := List.mem_of_getElem? (i := 302) rfl
set_option maxRecDepth 100000 in
theorem tg_303 : (.static y_F_wordOf : Cond) ∈ TG := List.mem_of_getElem? (i := 303) rfl
set_option maxRecDepth 100000 in
theorem tg_304 : (.methodLink "PageVault$Frames" 44 y_F_word : Cond) ∈ TG := List.mem_of_getElem? (i := 304) rfl
set_option maxRecDepth 100000 in
theorem tg_305 : (.code y_F_bitOf b_F_bitOf 1 (some .int) : Cond) ∈ TG := List.mem_of_getElem? (i := 305) rfl
set_option maxRecDepth 100000 in
theorem tg_306 : (.methodLink "PageVault$Frames" 48 y_F_bitOf : Cond) ∈ TG := List.mem_of_getElem? (i := 306) rfl
set_option maxRecDepth 100000 in
theorem tg_307 : (.static y_F_bitOf : Cond) ∈ TG := List.mem_of_getElem? (i := 307) rfl
set_option maxRecDepth 100000 in
theorem tg_308 : (.code y_F_mask b_F_mask 1 (some .int) : Cond) ∈ TG := List.mem_of_getElem? (i := 308) rfl
set_option maxRecDepth 100000 in
theorem tg_309 : (.methodLink "PageVault$Frames" 51 y_F_mask : Cond) ∈ TG := List.mem_of_getElem? (i := 309) rfl
set_option maxRecDepth 100000 in
theorem tg_310 : (.static y_F_mask : Cond) ∈ TG := List.mem_of_getElem? (i := 310) rfl
set_option maxRecDepth 100000 in
theorem tg_311 : (.code y_F_read b_F_read 4 (some .int) : Cond) ∈ TG := List.mem_of_getElem? (i := 311) rfl
set_option maxRecDepth 100000 in
theorem tg_312 : (.methodLink "PageVault" 142 y_F_read : Cond) ∈ TG := List.mem_of_getElem? (i := 312) rfl
set_option maxRecDepth 100000 in
theorem tg_313 : (.instanceMethod y_F_read : Cond) ∈ TG := List.mem_of_getElem? (i := 313) rfl
set_option maxRecDepth 100000 in
theorem tg_314 : (.selects "PageVault$Frames" y_F_read y_F_read : Cond) ∈ TG := List.mem_of_getElem? (i := 314) rfl
set_option maxRecDepth 100000 in
theorem tg_315 : (.code y_F_holders b_F_holders 2 (some .int) : Cond) ∈ TG := List.mem_of_getElem? (i := 315) rfl
set_option maxRecDepth 100000 in
theorem tg_316 : (.methodLink "PageVault" 128 y_F_holders : Cond) ∈ TG := List.mem_of_getElem? (i := 316) rfl
set_option maxRecDepth 100000 in
theorem tg_317 : (.instanceMethod y_F_holders : Cond) ∈ TG := List.mem_of_getElem? (i := 317) rfl
set_option maxRecDepth 100000 in
theorem tg_318 : (.selects "PageVault$Frames" y_F_holders y_F_holders : Cond) ∈ TG := List.mem_of_getElem? (i := 318) rfl
set_option maxRecDepth 100000 in
theorem tg_319 : (.methodLink "PageVault$Space" 75 y_S_entryAt : Cond) ∈ TG := List.mem_of_getElem? (i := 319) rfl
set_option maxRecDepth 100000 in
theorem tg_320 : (.code y_V_flagsOf b_V_flagsOf 1 (some .int) : Cond) ∈ TG := List.mem_of_getElem? (i := 320) rfl
set_option maxRecDepth 100000 in
theorem tg_321 : (.static y_V_flagsOf : Cond) ∈ TG := List.mem_of_getElem? (i := 321) rfl
set_option maxRecDepth 100000 in
theorem tg_322 : (.methodLink "PageVault$Space" 88 y_S_setEntry : Cond) ∈ TG := List.mem_of_getElem? (i := 322) rfl
set_option maxRecDepth 100000 in
theorem tg_323 : (.code y_S_partPage b_S_partPage 4 (some .int) : Cond) ∈ TG := List.mem_of_getElem? (i := 323) rfl
set_option maxRecDepth 100000 in
theorem tg_324 : (.methodLink "PageVault" 152 y_S_partPage : Cond) ∈ TG := List.mem_of_getElem? (i := 324) rfl
set_option maxRecDepth 100000 in
theorem tg_325 : (.instanceMethod y_S_partPage : Cond) ∈ TG := List.mem_of_getElem? (i := 325) rfl
set_option maxRecDepth 100000 in
theorem tg_326 : (.selects "PageVault$Space" y_S_partPage y_S_partPage : Cond) ∈ TG := List.mem_of_getElem? (i := 326) rfl
set_option maxRecDepth 100000 in
theorem tg_327 : (.code y_V_frameOrFull b_V_frameOrFull 2 (some .int) : Cond) ∈ TG := List.mem_of_getElem? (i := 327) rfl
set_option maxRecDepth 100000 in
theorem tg_328 : (.methodLink "PageVault" 155 y_V_frameOrFull : Cond) ∈ TG := List.mem_of_getElem? (i := 328) rfl
set_option maxRecDepth 100000 in
theorem tg_329 : (.instanceMethod y_V_frameOrFull : Cond) ∈ TG := List.mem_of_getElem? (i := 329) rfl
set_option maxRecDepth 100000 in
theorem tg_330 : (.selects "PageVault" y_V_frameOrFull y_V_frameOrFull : Cond) ∈ TG := List.mem_of_getElem? (i := 330) rfl
set_option maxRecDepth 100000 in
theorem tg_331 : (.code y_V_touchAbsent b_V_touchAbsent 4 (some .int) : Cond) ∈ TG := List.mem_of_getElem? (i := 331) rfl
set_option maxRecDepth 100000 in
theorem tg_332 : (.methodLink "PageVault" 149 y_V_touchAbsent : Cond) ∈ TG := List.mem_of_getElem? (i := 332) rfl
set_option maxRecDepth 100000 in
theorem tg_333 : (.instanceMethod y_V_touchAbsent : Cond) ∈ TG := List.mem_of_getElem? (i := 333) rfl
set_option maxRecDepth 100000 in
theorem tg_334 : (.selects "PageVault" y_V_touchAbsent y_V_touchAbsent : Cond) ∈ TG := List.mem_of_getElem? (i := 334) rfl
set_option maxRecDepth 100000 in
theorem tg_335 : (.code y_V_number b_V_number 6 (some .int) : Cond) ∈ TG := List.mem_of_getElem? (i := 335) rfl
set_option maxRecDepth 100000 in
theorem tg_336 : (.methodLink "PageVault" 99 y_V_number : Cond) ∈ TG := List.mem_of_getElem? (i := 336) rfl
set_option maxRecDepth 100000 in
theorem tg_337 : (.instanceMethod y_V_number : Cond) ∈ TG := List.mem_of_getElem? (i := 337) rfl
set_option maxRecDepth 100000 in
theorem tg_338 : (.selects "PageVault" y_V_number y_V_number : Cond) ∈ TG := List.mem_of_getElem? (i := 338) rfl
set_option maxRecDepth 100000 in
theorem tg_339 : (.methodLink "PageVault$Frames" 54 y_F_setWord : Cond) ∈ TG := List.mem_of_getElem? (i := 339) rfl
set_option maxRecDepth 100000 in
theorem tg_340 : (.code y_F_write b_F_write 6 none : Cond) ∈ TG := List.mem_of_getElem? (i := 340) rfl
set_option maxRecDepth 100000 in
theorem tg_341 : (.methodLink "PageVault" 146 y_F_write : Cond) ∈ TG := List.mem_of_getElem? (i := 341) rfl
set_option maxRecDepth 100000 in
theorem tg_342 : (.instanceMethod y_F_write : Cond) ∈ TG := List.mem_of_getElem? (i := 342) rfl
set_option maxRecDepth 100000 in
theorem tg_343 : (.selects "PageVault$Frames" y_F_write y_F_write : Cond) ∈ TG := List.mem_of_getElem? (i := 343) rfl
set_option maxRecDepth 100000 in
theorem tg_344 : (.code y_V_write b_V_write 6 (some .boolean) : Cond) ∈ TG := List.mem_of_getElem? (i := 344) rfl
set_option maxRecDepth 100000 in
theorem tg_345 : (.methodLink "PageVault" 114 y_V_write : Cond) ∈ TG := List.mem_of_getElem? (i := 345) rfl
set_option maxRecDepth 100000 in
theorem tg_346 : (.instanceMethod y_V_write : Cond) ∈ TG := List.mem_of_getElem? (i := 346) rfl
set_option maxRecDepth 100000 in
theorem tg_347 : (.selects "PageVault" y_V_write y_V_write : Cond) ∈ TG := List.mem_of_getElem? (i := 347) rfl
set_option maxRecDepth 100000 in
theorem tg_348 : (.code y_V_readByte b_V_readByte 4 (some .int) : Cond) ∈ TG := List.mem_of_getElem? (i := 348) rfl
set_option maxRecDepth 100000 in
theorem tg_349 : (.methodLink "PageVault" 118 y_V_readByte : Cond) ∈ TG := List.mem_of_getElem? (i := 349) rfl
set_option maxRecDepth 100000 in
theorem tg_350 : (.instanceMethod y_V_readByte : Cond) ∈ TG := List.mem_of_getElem? (i := 350) rfl
set_option maxRecDepth 100000 in
theorem tg_351 : (.selects "PageVault" y_V_readByte y_V_readByte : Cond) ∈ TG := List.mem_of_getElem? (i := 351) rfl
set_option maxRecDepth 100000 in
theorem tg_352 : (.code y_V_entryIn b_V_entryIn 4 (some .int) : Cond) ∈ TG := List.mem_of_getElem? (i := 352) rfl
set_option maxRecDepth 100000 in
theorem tg_353 : (.methodLink "PageVault" 122 y_V_entryIn : Cond) ∈ TG := List.mem_of_getElem? (i := 353) rfl
set_option maxRecDepth 100000 in
theorem tg_354 : (.instanceMethod y_V_entryIn : Cond) ∈ TG := List.mem_of_getElem? (i := 354) rfl
set_option maxRecDepth 100000 in
theorem tg_355 : (.selects "PageVault" y_V_entryIn y_V_entryIn : Cond) ∈ TG := List.mem_of_getElem? (i := 355) rfl
set_option maxRecDepth 100000 in
theorem tg_356 : (.methodLink "PageVault" 125 y_V_flagsOf : Cond) ∈ TG := List.mem_of_getElem? (i := 356) rfl
set_option maxRecDepth 100000 in
theorem tg_357 : (.code y_V_make b_V_make 2 (some .int) : Cond) ∈ TG := List.mem_of_getElem? (i := 357) rfl
set_option maxRecDepth 100000 in
theorem tg_358 : (.methodLink "PageVaultLaw" 21 y_V_make : Cond) ∈ TG := List.mem_of_getElem? (i := 358) rfl
set_option maxRecDepth 100000 in
theorem tg_359 : (.instanceMethod y_V_make : Cond) ∈ TG := List.mem_of_getElem? (i := 359) rfl
set_option maxRecDepth 100000 in
theorem tg_360 : (.selects "PageVault" y_V_make y_V_make : Cond) ∈ TG := List.mem_of_getElem? (i := 360) rfl
set_option maxRecDepth 100000 in
theorem tg_361 : (.code y_M_make b_M_make 2 (some .int) : Cond) ∈ TG := List.mem_of_getElem? (i := 361) rfl
set_option maxRecDepth 100000 in
theorem tg_362 : (.methodLink "PageVaultLaw" 25 y_M_make : Cond) ∈ TG := List.mem_of_getElem? (i := 362) rfl
set_option maxRecDepth 100000 in
theorem tg_363 : (.instanceMethod y_M_make : Cond) ∈ TG := List.mem_of_getElem? (i := 363) rfl
set_option maxRecDepth 100000 in
theorem tg_364 : (.selects "PageVaultModel" y_M_make y_M_make : Cond) ∈ TG := List.mem_of_getElem? (i := 364) rfl
set_option maxRecDepth 100000 in
theorem tg_365 : (.code y_V_drop b_V_drop 3 (some .boolean) : Cond) ∈ TG := List.mem_of_getElem? (i := 365) rfl
set_option maxRecDepth 100000 in
theorem tg_366 : (.methodLink "PageVaultLaw" 26 y_V_drop : Cond) ∈ TG := List.mem_of_getElem? (i := 366) rfl
set_option maxRecDepth 100000 in
theorem tg_367 : (.instanceMethod y_V_drop : Cond) ∈ TG := List.mem_of_getElem? (i := 367) rfl
set_option maxRecDepth 100000 in
theorem tg_368 : (.selects "PageVault" y_V_drop y_V_drop : Cond) ∈ TG := List.mem_of_getElem? (i := 368) rfl
set_option maxRecDepth 100000 in
theorem tg_369 : (.code y_M_drop b_M_drop 2 (some .boolean) : Cond) ∈ TG := List.mem_of_getElem? (i := 369) rfl
set_option maxRecDepth 100000 in
theorem tg_370 : (.methodLink "PageVaultLaw" 30 y_M_drop : Cond) ∈ TG := List.mem_of_getElem? (i := 370) rfl
set_option maxRecDepth 100000 in
theorem tg_371 : (.instanceMethod y_M_drop : Cond) ∈ TG := List.mem_of_getElem? (i := 371) rfl
set_option maxRecDepth 100000 in
theorem tg_372 : (.selects "PageVaultModel" y_M_drop y_M_drop : Cond) ∈ TG := List.mem_of_getElem? (i := 372) rfl
set_option maxRecDepth 100000 in
theorem tg_373 : (.code y_V_fork b_V_fork 4 (some .int) : Cond) ∈ TG := List.mem_of_getElem? (i := 373) rfl
set_option maxRecDepth 100000 in
theorem tg_374 : (.methodLink "PageVaultLaw" 31 y_V_fork : Cond) ∈ TG := List.mem_of_getElem? (i := 374) rfl
set_option maxRecDepth 100000 in
theorem tg_375 : (.instanceMethod y_V_fork : Cond) ∈ TG := List.mem_of_getElem? (i := 375) rfl
set_option maxRecDepth 100000 in
theorem tg_376 : (.selects "PageVault" y_V_fork y_V_fork : Cond) ∈ TG := List.mem_of_getElem? (i := 376) rfl
set_option maxRecDepth 100000 in
theorem tg_377 : (.code y_M_fork b_M_fork 5 (some .int) : Cond) ∈ TG := List.mem_of_getElem? (i := 377) rfl
set_option maxRecDepth 100000 in
theorem tg_378 : (.methodLink "PageVaultLaw" 35 y_M_fork : Cond) ∈ TG := List.mem_of_getElem? (i := 378) rfl
set_option maxRecDepth 100000 in
theorem tg_379 : (.instanceMethod y_M_fork : Cond) ∈ TG := List.mem_of_getElem? (i := 379) rfl
set_option maxRecDepth 100000 in
theorem tg_380 : (.selects "PageVaultModel" y_M_fork y_M_fork : Cond) ∈ TG := List.mem_of_getElem? (i := 380) rfl
set_option maxRecDepth 100000 in
theorem tg_381 : (.code y_V_map b_V_map 5 (some .int) : Cond) ∈ TG := List.mem_of_getElem? (i := 381) rfl
set_option maxRecDepth 100000 in
theorem tg_382 : (.methodLink "PageVaultLaw" 36 y_V_map : Cond) ∈ TG := List.mem_of_getElem? (i := 382) rfl
set_option maxRecDepth 100000 in
theorem tg_383 : (.instanceMethod y_V_map : Cond) ∈ TG := List.mem_of_getElem? (i := 383) rfl
set_option maxRecDepth 100000 in
theorem tg_384 : (.selects "PageVault" y_V_map y_V_map : Cond) ∈ TG := List.mem_of_getElem? (i := 384) rfl
set_option maxRecDepth 100000 in
theorem tg_385 : (.code y_M_map b_M_map 4 (some .int) : Cond) ∈ TG := List.mem_of_getElem? (i := 385) rfl
set_option maxRecDepth 100000 in
theorem tg_386 : (.methodLink "PageVaultLaw" 40 y_M_map : Cond) ∈ TG := List.mem_of_getElem? (i := 386) rfl
set_option maxRecDepth 100000 in
theorem tg_387 : (.instanceMethod y_M_map : Cond) ∈ TG := List.mem_of_getElem? (i := 387) rfl
set_option maxRecDepth 100000 in
theorem tg_388 : (.selects "PageVaultModel" y_M_map y_M_map : Cond) ∈ TG := List.mem_of_getElem? (i := 388) rfl
set_option maxRecDepth 100000 in
theorem tg_389 : (.code y_V_protect b_V_protect 6 (some .boolean) : Cond) ∈ TG := List.mem_of_getElem? (i := 389) rfl
set_option maxRecDepth 100000 in
theorem tg_390 : (.methodLink "PageVaultLaw" 41 y_V_protect : Cond) ∈ TG := List.mem_of_getElem? (i := 390) rfl
set_option maxRecDepth 100000 in
theorem tg_391 : (.instanceMethod y_V_protect : Cond) ∈ TG := List.mem_of_getElem? (i := 391) rfl
set_option maxRecDepth 100000 in
theorem tg_392 : (.selects "PageVault" y_V_protect y_V_protect : Cond) ∈ TG := List.mem_of_getElem? (i := 392) rfl
set_option maxRecDepth 100000 in
theorem tg_393 : (.code y_M_protect b_M_protect 5 (some .boolean) : Cond) ∈ TG := List.mem_of_getElem? (i := 393) rfl
set_option maxRecDepth 100000 in
theorem tg_394 : (.methodLink "PageVaultLaw" 45 y_M_protect : Cond) ∈ TG := List.mem_of_getElem? (i := 394) rfl
set_option maxRecDepth 100000 in
theorem tg_395 : (.instanceMethod y_M_protect : Cond) ∈ TG := List.mem_of_getElem? (i := 395) rfl
set_option maxRecDepth 100000 in
theorem tg_396 : (.selects "PageVaultModel" y_M_protect y_M_protect : Cond) ∈ TG := List.mem_of_getElem? (i := 396) rfl
set_option maxRecDepth 100000 in
theorem tg_397 : (.code y_V_grow b_V_grow 7 (some .int) : Cond) ∈ TG := List.mem_of_getElem? (i := 397) rfl
set_option maxRecDepth 100000 in
theorem tg_398 : (.methodLink "PageVaultLaw" 46 y_V_grow : Cond) ∈ TG := List.mem_of_getElem? (i := 398) rfl
set_option maxRecDepth 100000 in
theorem tg_399 : (.instanceMethod y_V_grow : Cond) ∈ TG := List.mem_of_getElem? (i := 399) rfl
set_option maxRecDepth 100000 in
theorem tg_400 : (.selects "PageVault" y_V_grow y_V_grow : Cond) ∈ TG := List.mem_of_getElem? (i := 400) rfl
set_option maxRecDepth 100000 in
theorem tg_401 : (.code y_M_grow b_M_grow 6 (some .int) : Cond) ∈ TG := List.mem_of_getElem? (i := 401) rfl
set_option maxRecDepth 100000 in
theorem tg_402 : (.methodLink "PageVaultLaw" 50 y_M_grow : Cond) ∈ TG := List.mem_of_getElem? (i := 402) rfl
set_option maxRecDepth 100000 in
theorem tg_403 : (.instanceMethod y_M_grow : Cond) ∈ TG := List.mem_of_getElem? (i := 403) rfl
set_option maxRecDepth 100000 in
theorem tg_404 : (.selects "PageVaultModel" y_M_grow y_M_grow : Cond) ∈ TG := List.mem_of_getElem? (i := 404) rfl
set_option maxRecDepth 100000 in
theorem tg_405 : (.code y_V_size b_V_size 3 (some .int) : Cond) ∈ TG := List.mem_of_getElem? (i := 405) rfl
set_option maxRecDepth 100000 in
theorem tg_406 : (.methodLink "PageVaultLaw" 51 y_V_size : Cond) ∈ TG := List.mem_of_getElem? (i := 406) rfl
set_option maxRecDepth 100000 in
theorem tg_407 : (.instanceMethod y_V_size : Cond) ∈ TG := List.mem_of_getElem? (i := 407) rfl
set_option maxRecDepth 100000 in
theorem tg_408 : (.selects "PageVault" y_V_size y_V_size : Cond) ∈ TG := List.mem_of_getElem? (i := 408) rfl
set_option maxRecDepth 100000 in
theorem tg_409 : (.code y_M_size b_M_size 2 (some .int) : Cond) ∈ TG := List.mem_of_getElem? (i := 409) rfl
set_option maxRecDepth 100000 in
theorem tg_410 : (.methodLink "PageVaultLaw" 54 y_M_size : Cond) ∈ TG := List.mem_of_getElem? (i := 410) rfl
set_option maxRecDepth 100000 in
theorem tg_411 : (.instanceMethod y_M_size : Cond) ∈ TG := List.mem_of_getElem? (i := 411) rfl
set_option maxRecDepth 100000 in
theorem tg_412 : (.selects "PageVaultModel" y_M_size y_M_size : Cond) ∈ TG := List.mem_of_getElem? (i := 412) rfl
set_option maxRecDepth 100000 in
theorem tg_413 : (.code y_V_load b_V_load 4 (some .int) : Cond) ∈ TG := List.mem_of_getElem? (i := 413) rfl
set_option maxRecDepth 100000 in
theorem tg_414 : (.methodLink "PageVaultLaw" 55 y_V_load : Cond) ∈ TG := List.mem_of_getElem? (i := 414) rfl
set_option maxRecDepth 100000 in
theorem tg_415 : (.instanceMethod y_V_load : Cond) ∈ TG := List.mem_of_getElem? (i := 415) rfl
set_option maxRecDepth 100000 in
theorem tg_416 : (.selects "PageVault" y_V_load y_V_load : Cond) ∈ TG := List.mem_of_getElem? (i := 416) rfl
set_option maxRecDepth 100000 in
theorem tg_417 : (.code y_M_load b_M_load 4 (some .int) : Cond) ∈ TG := List.mem_of_getElem? (i := 417) rfl
set_option maxRecDepth 100000 in
theorem tg_418 : (.methodLink "PageVaultLaw" 58 y_M_load : Cond) ∈ TG := List.mem_of_getElem? (i := 418) rfl
set_option maxRecDepth 100000 in
theorem tg_419 : (.instanceMethod y_M_load : Cond) ∈ TG := List.mem_of_getElem? (i := 419) rfl
set_option maxRecDepth 100000 in
theorem tg_420 : (.selects "PageVaultModel" y_M_load y_M_load : Cond) ∈ TG := List.mem_of_getElem? (i := 420) rfl
set_option maxRecDepth 100000 in
theorem tg_421 : (.code y_V_fetch b_V_fetch 3 (some .int) : Cond) ∈ TG := List.mem_of_getElem? (i := 421) rfl
set_option maxRecDepth 100000 in
theorem tg_422 : (.methodLink "PageVaultLaw" 59 y_V_fetch : Cond) ∈ TG := List.mem_of_getElem? (i := 422) rfl
set_option maxRecDepth 100000 in
theorem tg_423 : (.instanceMethod y_V_fetch : Cond) ∈ TG := List.mem_of_getElem? (i := 423) rfl
set_option maxRecDepth 100000 in
theorem tg_424 : (.selects "PageVault" y_V_fetch y_V_fetch : Cond) ∈ TG := List.mem_of_getElem? (i := 424) rfl
set_option maxRecDepth 100000 in
theorem tg_425 : (.code y_M_fetch b_M_fetch 3 (some .int) : Cond) ∈ TG := List.mem_of_getElem? (i := 425) rfl
set_option maxRecDepth 100000 in
theorem tg_426 : (.methodLink "PageVaultLaw" 62 y_M_fetch : Cond) ∈ TG := List.mem_of_getElem? (i := 426) rfl
set_option maxRecDepth 100000 in
theorem tg_427 : (.instanceMethod y_M_fetch : Cond) ∈ TG := List.mem_of_getElem? (i := 427) rfl
set_option maxRecDepth 100000 in
theorem tg_428 : (.selects "PageVaultModel" y_M_fetch y_M_fetch : Cond) ∈ TG := List.mem_of_getElem? (i := 428) rfl
set_option maxRecDepth 100000 in
theorem tg_429 : (.code y_V_store b_V_store 5 (some .boolean) : Cond) ∈ TG := List.mem_of_getElem? (i := 429) rfl
set_option maxRecDepth 100000 in
theorem tg_430 : (.methodLink "PageVaultLaw" 63 y_V_store : Cond) ∈ TG := List.mem_of_getElem? (i := 430) rfl
set_option maxRecDepth 100000 in
theorem tg_431 : (.instanceMethod y_V_store : Cond) ∈ TG := List.mem_of_getElem? (i := 431) rfl
set_option maxRecDepth 100000 in
theorem tg_432 : (.selects "PageVault" y_V_store y_V_store : Cond) ∈ TG := List.mem_of_getElem? (i := 432) rfl
set_option maxRecDepth 100000 in
theorem tg_433 : (.code y_M_store b_M_store 5 (some .boolean) : Cond) ∈ TG := List.mem_of_getElem? (i := 433) rfl
set_option maxRecDepth 100000 in
theorem tg_434 : (.methodLink "PageVaultLaw" 67 y_M_store : Cond) ∈ TG := List.mem_of_getElem? (i := 434) rfl
set_option maxRecDepth 100000 in
theorem tg_435 : (.instanceMethod y_M_store : Cond) ∈ TG := List.mem_of_getElem? (i := 435) rfl
set_option maxRecDepth 100000 in
theorem tg_436 : (.selects "PageVaultModel" y_M_store y_M_store : Cond) ∈ TG := List.mem_of_getElem? (i := 436) rfl
set_option maxRecDepth 100000 in
theorem tg_437 : (.code y_V_trap b_V_trap 1 (some .int) : Cond) ∈ TG := List.mem_of_getElem? (i := 437) rfl
set_option maxRecDepth 100000 in
theorem tg_438 : (.methodLink "PageVaultLaw" 68 y_V_trap : Cond) ∈ TG := List.mem_of_getElem? (i := 438) rfl
set_option maxRecDepth 100000 in
theorem tg_439 : (.instanceMethod y_V_trap : Cond) ∈ TG := List.mem_of_getElem? (i := 439) rfl
set_option maxRecDepth 100000 in
theorem tg_440 : (.selects "PageVault" y_V_trap y_V_trap : Cond) ∈ TG := List.mem_of_getElem? (i := 440) rfl
set_option maxRecDepth 100000 in
theorem tg_441 : (.code y_M_trap b_M_trap 1 (some .int) : Cond) ∈ TG := List.mem_of_getElem? (i := 441) rfl
set_option maxRecDepth 100000 in
theorem tg_442 : (.methodLink "PageVaultLaw" 71 y_M_trap : Cond) ∈ TG := List.mem_of_getElem? (i := 442) rfl
set_option maxRecDepth 100000 in
theorem tg_443 : (.instanceMethod y_M_trap : Cond) ∈ TG := List.mem_of_getElem? (i := 443) rfl
set_option maxRecDepth 100000 in
theorem tg_444 : (.selects "PageVaultModel" y_M_trap y_M_trap : Cond) ∈ TG := List.mem_of_getElem? (i := 444) rfl
set_option maxRecDepth 100000 in
theorem tg_445 : (.code y_V_out b_V_out 6 (some .int) : Cond) ∈ TG := List.mem_of_getElem? (i := 445) rfl
set_option maxRecDepth 100000 in
theorem tg_446 : (.methodLink "PageVaultLaw" 72 y_V_out : Cond) ∈ TG := List.mem_of_getElem? (i := 446) rfl
set_option maxRecDepth 100000 in
theorem tg_447 : (.instanceMethod y_V_out : Cond) ∈ TG := List.mem_of_getElem? (i := 447) rfl
set_option maxRecDepth 100000 in
theorem tg_448 : (.selects "PageVault" y_V_out y_V_out : Cond) ∈ TG := List.mem_of_getElem? (i := 448) rfl
set_option maxRecDepth 100000 in
theorem tg_449 : (.code y_M_out b_M_out 5 (some .int) : Cond) ∈ TG := List.mem_of_getElem? (i := 449) rfl
set_option maxRecDepth 100000 in
theorem tg_450 : (.methodLink "PageVaultLaw" 75 y_M_out : Cond) ∈ TG := List.mem_of_getElem? (i := 450) rfl
set_option maxRecDepth 100000 in
theorem tg_451 : (.instanceMethod y_M_out : Cond) ∈ TG := List.mem_of_getElem? (i := 451) rfl
set_option maxRecDepth 100000 in
theorem tg_452 : (.selects "PageVaultModel" y_M_out y_M_out : Cond) ∈ TG := List.mem_of_getElem? (i := 452) rfl
set_option maxRecDepth 100000 in
theorem tg_453 : (.code y_V_in b_V_in 7 (some .int) : Cond) ∈ TG := List.mem_of_getElem? (i := 453) rfl
set_option maxRecDepth 100000 in
theorem tg_454 : (.methodLink "PageVaultLaw" 76 y_V_in : Cond) ∈ TG := List.mem_of_getElem? (i := 454) rfl
set_option maxRecDepth 100000 in
theorem tg_455 : (.instanceMethod y_V_in : Cond) ∈ TG := List.mem_of_getElem? (i := 455) rfl
set_option maxRecDepth 100000 in
theorem tg_456 : (.selects "PageVault" y_V_in y_V_in : Cond) ∈ TG := List.mem_of_getElem? (i := 456) rfl
set_option maxRecDepth 100000 in
theorem tg_457 : (.code y_M_in b_M_in 5 (some .int) : Cond) ∈ TG := List.mem_of_getElem? (i := 457) rfl
set_option maxRecDepth 100000 in
theorem tg_458 : (.methodLink "PageVaultLaw" 79 y_M_in : Cond) ∈ TG := List.mem_of_getElem? (i := 458) rfl
set_option maxRecDepth 100000 in
theorem tg_459 : (.instanceMethod y_M_in : Cond) ∈ TG := List.mem_of_getElem? (i := 459) rfl
set_option maxRecDepth 100000 in
theorem tg_460 : (.selects "PageVaultModel" y_M_in y_M_in : Cond) ∈ TG := List.mem_of_getElem? (i := 460) rfl
set_option maxRecDepth 100000 in
theorem tg_461 : (.code y_V_text b_V_text 7 (some .int) : Cond) ∈ TG := List.mem_of_getElem? (i := 461) rfl
set_option maxRecDepth 100000 in
theorem tg_462 : (.methodLink "PageVaultLaw" 80 y_V_text : Cond) ∈ TG := List.mem_of_getElem? (i := 462) rfl
set_option maxRecDepth 100000 in
theorem tg_463 : (.instanceMethod y_V_text : Cond) ∈ TG := List.mem_of_getElem? (i := 463) rfl
set_option maxRecDepth 100000 in
theorem tg_464 : (.selects "PageVault" y_V_text y_V_text : Cond) ∈ TG := List.mem_of_getElem? (i := 464) rfl
set_option maxRecDepth 100000 in
theorem tg_465 : (.code y_M_text b_M_text 5 (some .int) : Cond) ∈ TG := List.mem_of_getElem? (i := 465) rfl
set_option maxRecDepth 100000 in
theorem tg_466 : (.methodLink "PageVaultLaw" 83 y_M_text : Cond) ∈ TG := List.mem_of_getElem? (i := 466) rfl
set_option maxRecDepth 100000 in
theorem tg_467 : (.instanceMethod y_M_text : Cond) ∈ TG := List.mem_of_getElem? (i := 467) rfl
set_option maxRecDepth 100000 in
theorem tg_468 : (.selects "PageVaultModel" y_M_text y_M_text : Cond) ∈ TG := List.mem_of_getElem? (i := 468) rfl
set_option maxRecDepth 100000 in
theorem tg_469 : (.code y_V_put b_V_put 3 (some .boolean) : Cond) ∈ TG := List.mem_of_getElem? (i := 469) rfl
set_option maxRecDepth 100000 in
theorem tg_470 : (.methodLink "PageVaultLaw" 84 y_V_put : Cond) ∈ TG := List.mem_of_getElem? (i := 470) rfl
set_option maxRecDepth 100000 in
theorem tg_471 : (.instanceMethod y_V_put : Cond) ∈ TG := List.mem_of_getElem? (i := 471) rfl
set_option maxRecDepth 100000 in
theorem tg_472 : (.selects "PageVault" y_V_put y_V_put : Cond) ∈ TG := List.mem_of_getElem? (i := 472) rfl
set_option maxRecDepth 100000 in
theorem tg_473 : (.code y_M_put b_M_put 3 (some .boolean) : Cond) ∈ TG := List.mem_of_getElem? (i := 473) rfl
set_option maxRecDepth 100000 in
theorem tg_474 : (.methodLink "PageVaultLaw" 88 y_M_put : Cond) ∈ TG := List.mem_of_getElem? (i := 474) rfl
set_option maxRecDepth 100000 in
theorem tg_475 : (.instanceMethod y_M_put : Cond) ∈ TG := List.mem_of_getElem? (i := 475) rfl
set_option maxRecDepth 100000 in
theorem tg_476 : (.selects "PageVaultModel" y_M_put y_M_put : Cond) ∈ TG := List.mem_of_getElem? (i := 476) rfl
set_option maxRecDepth 100000 in
theorem tg_477 : (.code y_V_at b_V_at 2 (some .int) : Cond) ∈ TG := List.mem_of_getElem? (i := 477) rfl
set_option maxRecDepth 100000 in
theorem tg_478 : (.methodLink "PageVaultLaw" 89 y_V_at : Cond) ∈ TG := List.mem_of_getElem? (i := 478) rfl
set_option maxRecDepth 100000 in
theorem tg_479 : (.instanceMethod y_V_at : Cond) ∈ TG := List.mem_of_getElem? (i := 479) rfl
set_option maxRecDepth 100000 in
theorem tg_480 : (.selects "PageVault" y_V_at y_V_at : Cond) ∈ TG := List.mem_of_getElem? (i := 480) rfl
set_option maxRecDepth 100000 in
theorem tg_481 : (.code y_M_at b_M_at 2 (some .int) : Cond) ∈ TG := List.mem_of_getElem? (i := 481) rfl
set_option maxRecDepth 100000 in
theorem tg_482 : (.methodLink "PageVaultLaw" 92 y_M_at : Cond) ∈ TG := List.mem_of_getElem? (i := 482) rfl
set_option maxRecDepth 100000 in
theorem tg_483 : (.instanceMethod y_M_at : Cond) ∈ TG := List.mem_of_getElem? (i := 483) rfl
set_option maxRecDepth 100000 in
theorem tg_484 : (.selects "PageVaultModel" y_M_at y_M_at : Cond) ∈ TG := List.mem_of_getElem? (i := 484) rfl
set_option maxRecDepth 100000 in
theorem tg_485 : (.code y_V_free b_V_free 1 (some .int) : Cond) ∈ TG := List.mem_of_getElem? (i := 485) rfl
set_option maxRecDepth 100000 in
theorem tg_486 : (.methodLink "PageVaultLaw" 93 y_V_free : Cond) ∈ TG := List.mem_of_getElem? (i := 486) rfl
set_option maxRecDepth 100000 in
theorem tg_487 : (.instanceMethod y_V_free : Cond) ∈ TG := List.mem_of_getElem? (i := 487) rfl
set_option maxRecDepth 100000 in
theorem tg_488 : (.selects "PageVault" y_V_free y_V_free : Cond) ∈ TG := List.mem_of_getElem? (i := 488) rfl
set_option maxRecDepth 100000 in
theorem tg_489 : (.code y_M_free b_M_free 1 (some .int) : Cond) ∈ TG := List.mem_of_getElem? (i := 489) rfl
set_option maxRecDepth 100000 in
theorem tg_490 : (.methodLink "PageVaultLaw" 96 y_M_free : Cond) ∈ TG := List.mem_of_getElem? (i := 490) rfl
set_option maxRecDepth 100000 in
theorem tg_491 : (.instanceMethod y_M_free : Cond) ∈ TG := List.mem_of_getElem? (i := 491) rfl
set_option maxRecDepth 100000 in
theorem tg_492 : (.selects "PageVaultModel" y_M_free y_M_free : Cond) ∈ TG := List.mem_of_getElem? (i := 492) rfl
set_option maxRecDepth 100000 in
theorem tg_493 : (.code y_V_flags b_V_flags 4 (some .int) : Cond) ∈ TG := List.mem_of_getElem? (i := 493) rfl
set_option maxRecDepth 100000 in
theorem tg_494 : (.methodLink "PageVaultLaw" 97 y_V_flags : Cond) ∈ TG := List.mem_of_getElem? (i := 494) rfl
set_option maxRecDepth 100000 in
theorem tg_495 : (.instanceMethod y_V_flags : Cond) ∈ TG := List.mem_of_getElem? (i := 495) rfl
set_option maxRecDepth 100000 in
theorem tg_496 : (.selects "PageVault" y_V_flags y_V_flags : Cond) ∈ TG := List.mem_of_getElem? (i := 496) rfl
set_option maxRecDepth 100000 in
theorem tg_497 : (.code y_M_flags b_M_flags 4 (some .int) : Cond) ∈ TG := List.mem_of_getElem? (i := 497) rfl
set_option maxRecDepth 100000 in
theorem tg_498 : (.methodLink "PageVaultLaw" 100 y_M_flags : Cond) ∈ TG := List.mem_of_getElem? (i := 498) rfl
set_option maxRecDepth 100000 in
theorem tg_499 : (.instanceMethod y_M_flags : Cond) ∈ TG := List.mem_of_getElem? (i := 499) rfl
set_option maxRecDepth 100000 in
theorem tg_500 : (.selects "PageVaultModel" y_M_flags y_M_flags : Cond) ∈ TG := List.mem_of_getElem? (i := 500) rfl
set_option maxRecDepth 100000 in
theorem tg_501 : (.code y_V_owners b_V_owners 3 (some .int) : Cond) ∈ TG := List.mem_of_getElem? (i := 501) rfl
set_option maxRecDepth 100000 in
theorem tg_502 : (.methodLink "PageVaultLaw" 101 y_V_owners : Cond) ∈ TG := List.mem_of_getElem? (i := 502) rfl
set_option maxRecDepth 100000 in
theorem tg_503 : (.instanceMethod y_V_owners : Cond) ∈ TG := List.mem_of_getElem? (i := 503) rfl
set_option maxRecDepth 100000 in
theorem tg_504 : (.selects "PageVault" y_V_owners y_V_owners : Cond) ∈ TG := List.mem_of_getElem? (i := 504) rfl
set_option maxRecDepth 100000 in
theorem tg_505 : (.code y_M_owners b_M_owners 4 (some .int) : Cond) ∈ TG := List.mem_of_getElem? (i := 505) rfl
set_option maxRecDepth 100000 in
theorem tg_506 : (.methodLink "PageVaultLaw" 104 y_M_owners : Cond) ∈ TG := List.mem_of_getElem? (i := 506) rfl
set_option maxRecDepth 100000 in
theorem tg_507 : (.instanceMethod y_M_owners : Cond) ∈ TG := List.mem_of_getElem? (i := 507) rfl
set_option maxRecDepth 100000 in
theorem tg_508 : (.selects "PageVaultModel" y_M_owners y_M_owners : Cond) ∈ TG := List.mem_of_getElem? (i := 508) rfl
set_option maxRecDepth 100000 in
theorem tg_509 : (.laysFinal "PageVault" "PageVault" "frames" "LPageVault$Frames;" : Cond) ∈ TG := List.mem_of_getElem? (i := 509) rfl
set_option maxRecDepth 100000 in
theorem tg_510 : (.laysFinal "PageVault" "PageVault" "spaces" "[LPageVault$Space;" : Cond) ∈ TG := List.mem_of_getElem? (i := 510) rfl
set_option maxRecDepth 100000 in
theorem tg_511 : (.laysFinal "PageVault" "PageVault" "buffer" "[I" : Cond) ∈ TG := List.mem_of_getElem? (i := 511) rfl
set_option maxRecDepth 100000 in
theorem tg_512 : (.lays "PageVault" "PageVault" "latestTrap" "I" : Cond) ∈ TG := List.mem_of_getElem? (i := 512) rfl
set_option maxRecDepth 100000 in
theorem tg_513 : (.laysFinal "PageVault$Frames" "PageVault$Frames" "words" "[[I" : Cond) ∈ TG := List.mem_of_getElem? (i := 513) rfl
set_option maxRecDepth 100000 in
theorem tg_514 : (.laysFinal "PageVault$Frames" "PageVault$Frames" "holders" "[I" : Cond) ∈ TG := List.mem_of_getElem? (i := 514) rfl
set_option maxRecDepth 100000 in
theorem tg_515 : (.lays "PageVault$Frames" "PageVault$Frames" "spare" "I" : Cond) ∈ TG := List.mem_of_getElem? (i := 515) rfl
set_option maxRecDepth 100000 in
theorem tg_516 : (.laysFinal "PageVault$Space" "PageVault$Space" "frames" "LPageVault$Frames;" : Cond) ∈ TG := List.mem_of_getElem? (i := 516) rfl
set_option maxRecDepth 100000 in
theorem tg_517 : (.lays "PageVault$Space" "PageVault$Space" "root" "I" : Cond) ∈ TG := List.mem_of_getElem? (i := 517) rfl
set_option maxRecDepth 100000 in
theorem tg_518 : (.lays "PageVault$Space" "PageVault$Space" "length" "I" : Cond) ∈ TG := List.mem_of_getElem? (i := 518) rfl
set_option maxRecDepth 100000 in
theorem tg_519 : (.lays "PageVaultModel" "PageVaultModel" "frames" "I" : Cond) ∈ TG := List.mem_of_getElem? (i := 519) rfl
set_option maxRecDepth 100000 in
theorem tg_520 : (.lays "PageVaultModel" "PageVaultModel" "lastTrap" "I" : Cond) ∈ TG := List.mem_of_getElem? (i := 520) rfl
set_option maxRecDepth 100000 in
theorem tg_521 : (.laysFinal "PageVaultModel" "PageVaultModel" "alive" "[Z" : Cond) ∈ TG := List.mem_of_getElem? (i := 521) rfl
set_option maxRecDepth 100000 in
theorem tg_522 : (.laysFinal "PageVaultModel" "PageVaultModel" "ends" "[I" : Cond) ∈ TG := List.mem_of_getElem? (i := 522) rfl
set_option maxRecDepth 100000 in
theorem tg_523 : (.laysFinal "PageVaultModel" "PageVaultModel" "pageSpace" "[I" : Cond) ∈ TG := List.mem_of_getElem? (i := 523) rfl
set_option maxRecDepth 100000 in
theorem tg_524 : (.laysFinal "PageVaultModel" "PageVaultModel" "pageNumber" "[I" : Cond) ∈ TG := List.mem_of_getElem? (i := 524) rfl
set_option maxRecDepth 100000 in
theorem tg_525 : (.laysFinal "PageVaultModel" "PageVaultModel" "pageFlags" "[I" : Cond) ∈ TG := List.mem_of_getElem? (i := 525) rfl
set_option maxRecDepth 100000 in
theorem tg_526 : (.laysFinal "PageVaultModel" "PageVaultModel" "pageKin" "[I" : Cond) ∈ TG := List.mem_of_getElem? (i := 526) rfl
set_option maxRecDepth 100000 in
theorem tg_527 : (.lays "PageVaultModel" "PageVaultModel" "pages" "I" : Cond) ∈ TG := List.mem_of_getElem? (i := 527) rfl
set_option maxRecDepth 100000 in
theorem tg_528 : (.lays "PageVaultModel" "PageVaultModel" "kins" "I" : Cond) ∈ TG := List.mem_of_getElem? (i := 528) rfl
set_option maxRecDepth 100000 in
theorem tg_529 : (.laysFinal "PageVaultModel" "PageVaultModel" "regionSpace" "[I" : Cond) ∈ TG := List.mem_of_getElem? (i := 529) rfl
set_option maxRecDepth 100000 in
theorem tg_530 : (.laysFinal "PageVaultModel" "PageVaultModel" "regionNumber" "[I" : Cond) ∈ TG := List.mem_of_getElem? (i := 530) rfl
set_option maxRecDepth 100000 in
theorem tg_531 : (.lays "PageVaultModel" "PageVaultModel" "regions" "I" : Cond) ∈ TG := List.mem_of_getElem? (i := 531) rfl
set_option maxRecDepth 100000 in
theorem tg_532 : (.laysFinal "PageVaultModel" "PageVaultModel" "deed" "[I" : Cond) ∈ TG := List.mem_of_getElem? (i := 532) rfl
set_option maxRecDepth 100000 in
theorem tg_533 : (.laysFinal "PageVaultModel" "PageVaultModel" "who" "[I" : Cond) ∈ TG := List.mem_of_getElem? (i := 533) rfl
set_option maxRecDepth 100000 in
theorem tg_534 : (.laysFinal "PageVaultModel" "PageVaultModel" "where" "[I" : Cond) ∈ TG := List.mem_of_getElem? (i := 534) rfl
set_option maxRecDepth 100000 in
theorem tg_535 : (.laysFinal "PageVaultModel" "PageVaultModel" "much" "[I" : Cond) ∈ TG := List.mem_of_getElem? (i := 535) rfl
set_option maxRecDepth 100000 in
theorem tg_536 : (.laysFinal "PageVaultModel" "PageVaultModel" "what" "[I" : Cond) ∈ TG := List.mem_of_getElem? (i := 536) rfl
set_option maxRecDepth 100000 in
theorem tg_537 : (.lays "PageVaultModel" "PageVaultModel" "deeds" "I" : Cond) ∈ TG := List.mem_of_getElem? (i := 537) rfl
set_option maxRecDepth 100000 in
theorem ti_0 : (.classLink "PageVault$Frames" 9 "[[I" : Cond) ∈ lw_tbl := List.mem_append_right _ (List.mem_append_left _ (List.mem_of_getElem? (i := 28) rfl : (.classLink "PageVault$Frames" 9 "[[I" : Cond) ∈ tables_1_1))
set_option maxRecDepth 100000 in
theorem ti_1 : (.arrayClass .int : Cond) ∈ lw_tbl := List.mem_append_right _ (List.mem_append_left _ (List.mem_of_getElem? (i := 40) rfl : (.arrayClass .int : Cond) ∈ tables_1_1))
set_option maxRecDepth 100000 in
theorem ti_2 : (.arrayClass .boolean : Cond) ∈ lw_tbl := List.mem_append_right _ (List.mem_append_right _ (List.mem_append_left _ (List.mem_of_getElem? (i := 177) rfl : (.arrayClass .boolean : Cond) ∈ tables_1_2)))
set_option maxRecDepth 100000 in
theorem ti_3 : (.classLink "PageVault" 9 "PageVault$Frames" : Cond) ∈ lw_tbl := List.mem_append_right _ (List.mem_append_left _ (List.mem_of_getElem? (i := 16) rfl : (.classLink "PageVault" 9 "PageVault$Frames" : Cond) ∈ tables_1_1))
set_option maxRecDepth 100000 in
theorem ti_4 : (.classLink "PageVault" 27 "PageVault$Space" : Cond) ∈ lw_tbl := List.mem_append_right _ (List.mem_append_left _ (List.mem_of_getElem? (i := 41) rfl : (.classLink "PageVault" 27 "PageVault$Space" : Cond) ∈ tables_1_1))
set_option maxRecDepth 100000 in
theorem ti_5 : (.classLink "PageVaultLaw" 7 "PageVault" : Cond) ∈ lw_tbl := List.mem_append_right _ (List.mem_append_left _ (List.mem_of_getElem? (i := 8) rfl : (.classLink "PageVaultLaw" 7 "PageVault" : Cond) ∈ tables_1_1))
set_option maxRecDepth 100000 in
theorem ti_6 : (.classLink "PageVaultLaw" 18 "PageVaultModel" : Cond) ∈ lw_tbl := List.mem_append_right _ (List.mem_append_right _ (List.mem_append_left _ (List.mem_of_getElem? (i := 113) rfl : (.classLink "PageVaultLaw" 18 "PageVaultModel" : Cond) ∈ tables_1_2)))
set_option maxRecDepth 100000 in
theorem ti_7 : (.instantiable "PageVault" 4 : Cond) ∈ lw_tbl := List.mem_append_right _ (List.mem_append_left _ (List.mem_of_getElem? (i := 9) rfl : (.instantiable "PageVault" 4 : Cond) ∈ tables_1_1))
set_option maxRecDepth 100000 in
theorem ti_8 : (.instantiable "PageVault$Frames" 3 : Cond) ∈ lw_tbl := List.mem_append_right _ (List.mem_append_left _ (List.mem_of_getElem? (i := 17) rfl : (.instantiable "PageVault$Frames" 3 : Cond) ∈ tables_1_1))
set_option maxRecDepth 100000 in
theorem ti_9 : (.instantiable "PageVault$Space" 3 : Cond) ∈ lw_tbl := List.mem_append_right _ (List.mem_append_left _ (List.mem_of_getElem? (i := 43) rfl : (.instantiable "PageVault$Space" 3 : Cond) ∈ tables_1_1))
set_option maxRecDepth 100000 in
theorem ti_10 : (.instantiable "PageVaultModel" 19 : Cond) ∈ lw_tbl := List.mem_append_right _ (List.mem_append_right _ (List.mem_append_left _ (List.mem_of_getElem? (i := 114) rfl : (.instantiable "PageVaultModel" 19 : Cond) ∈ tables_1_2)))
set_option maxRecDepth 100000 in
theorem ti_11 : (.methodLink "PageVault" 3 Lib.objectInit : Cond) ∈ lw_tbl := List.mem_append_right _ (List.mem_append_left _ (List.mem_of_getElem? (i := 13) rfl : (.methodLink "PageVault" 3 Lib.objectInit : Cond) ∈ tables_1_1))
set_option maxRecDepth 100000 in
theorem ti_12 : (.methodLink "PageVault$Frames" 3 Lib.objectInit : Cond) ∈ lw_tbl := List.mem_append_right _ (List.mem_append_left _ (List.mem_of_getElem? (i := 27) rfl : (.methodLink "PageVault$Frames" 3 Lib.objectInit : Cond) ∈ tables_1_1))
set_option maxRecDepth 100000 in
theorem ti_13 : (.methodLink "PageVault$Space" 3 Lib.objectInit : Cond) ∈ lw_tbl := List.mem_append_right _ (List.mem_append_left _ (List.mem_of_getElem? (i := 47) rfl : (.methodLink "PageVault$Space" 3 Lib.objectInit : Cond) ∈ tables_1_1))
set_option maxRecDepth 100000 in
theorem ti_14 : (.methodLink "PageVaultModel" 1 Lib.objectInit : Cond) ∈ lw_tbl := List.mem_append_right _ (List.mem_append_right _ (List.mem_append_left _ (List.mem_of_getElem? (i := 118) rfl : (.methodLink "PageVaultModel" 1 Lib.objectInit : Cond) ∈ tables_1_2)))
set_option maxRecDepth 100000 in
theorem ti_15 : (.instanceMethod Lib.objectInit : Cond) ∈ lw_tbl := List.mem_append_right _ (List.mem_append_left _ (List.mem_of_getElem? (i := 14) rfl : (.instanceMethod Lib.objectInit : Cond) ∈ tables_1_1))
set_option maxRecDepth 100000 in
theorem ti_16 : (.code Lib.objectInit ⟨#[0xb1]⟩ 1 none : Cond) ∈ lw_tbl := List.mem_append_right _ (List.mem_append_left _ (List.mem_of_getElem? (i := 15) rfl : (.code Lib.objectInit ⟨#[0xb1]⟩ 1 none : Cond) ∈ tables_1_1))
set_option maxRecDepth 100000 in
theorem ti_17 : (.methodLink "PageVault" 20 y_F_init : Cond) ∈ lw_tbl := List.mem_append_right _ (List.mem_append_left _ (List.mem_of_getElem? (i := 24) rfl : (.methodLink "PageVault" 20 y_F_init : Cond) ∈ tables_1_1))
set_option maxRecDepth 100000 in
theorem ti_18 : (.methodLink "PageVault" 33 y_S_init : Cond) ∈ lw_tbl := List.mem_append_right _ (List.mem_append_left _ (List.mem_of_getElem? (i := 44) rfl : (.methodLink "PageVault" 33 y_S_init : Cond) ∈ tables_1_1))
set_option maxRecDepth 100000 in
theorem ti_19 : (.methodLink "PageVaultLaw" 15 y_V_init : Cond) ∈ lw_tbl := List.mem_append_right _ (List.mem_append_left _ (List.mem_of_getElem? (i := 10) rfl : (.methodLink "PageVaultLaw" 15 y_V_init : Cond) ∈ tables_1_1))
set_option maxRecDepth 100000 in
theorem ti_20 : (.methodLink "PageVaultLaw" 20 y_M_init : Cond) ∈ lw_tbl := List.mem_append_right _ (List.mem_append_right _ (List.mem_append_left _ (List.mem_of_getElem? (i := 115) rfl : (.methodLink "PageVaultLaw" 20 y_M_init : Cond) ∈ tables_1_2)))
set_option maxRecDepth 100000 in
theorem ti_21 : (.instanceMethod y_F_init : Cond) ∈ lw_tbl := List.mem_append_right _ (List.mem_append_left _ (List.mem_of_getElem? (i := 25) rfl : (.instanceMethod y_F_init : Cond) ∈ tables_1_1))
set_option maxRecDepth 100000 in
theorem ti_22 : (.instanceMethod y_S_init : Cond) ∈ lw_tbl := List.mem_append_right _ (List.mem_append_left _ (List.mem_of_getElem? (i := 45) rfl : (.instanceMethod y_S_init : Cond) ∈ tables_1_1))
set_option maxRecDepth 100000 in
theorem ti_23 : (.instanceMethod y_V_init : Cond) ∈ lw_tbl := List.mem_append_right _ (List.mem_append_left _ (List.mem_of_getElem? (i := 11) rfl : (.instanceMethod y_V_init : Cond) ∈ tables_1_1))
set_option maxRecDepth 100000 in
theorem ti_24 : (.instanceMethod y_M_init : Cond) ∈ lw_tbl := List.mem_append_right _ (List.mem_append_right _ (List.mem_append_left _ (List.mem_of_getElem? (i := 116) rfl : (.instanceMethod y_M_init : Cond) ∈ tables_1_2)))
set_option maxRecDepth 100000 in
theorem ti_25 : (.code y_F_init b_F_init 2 none : Cond) ∈ lw_tbl := List.mem_append_right _ (List.mem_append_left _ (List.mem_of_getElem? (i := 26) rfl : (.code y_F_init b_F_init 2 none : Cond) ∈ tables_1_1))
set_option maxRecDepth 100000 in
theorem ti_26 : (.code y_S_init b_S_init 2 none : Cond) ∈ lw_tbl := List.mem_append_right _ (List.mem_append_left _ (List.mem_of_getElem? (i := 46) rfl : (.code y_S_init b_S_init 2 none : Cond) ∈ tables_1_1))
set_option maxRecDepth 100000 in
theorem ti_27 : (.code y_V_init b_V_init 3 none : Cond) ∈ lw_tbl := List.mem_append_right _ (List.mem_append_left _ (List.mem_of_getElem? (i := 12) rfl : (.code y_V_init b_V_init 3 none : Cond) ∈ tables_1_1))
set_option maxRecDepth 100000 in
theorem ti_28 : (.code y_M_init b_M_init 2 none : Cond) ∈ lw_tbl := List.mem_append_right _ (List.mem_append_right _ (List.mem_append_left _ (List.mem_of_getElem? (i := 117) rfl : (.code y_M_init b_M_init 2 none : Cond) ∈ tables_1_2)))
set_option maxRecDepth 100000 in
theorem ti_29 : (.methodLink "PageVault" 11 Lib.Math.min.name : Cond) ∈ lw_tbl := List.mem_append_right _ (List.mem_append_left _ (List.mem_of_getElem? (i := 18) rfl : (.methodLink "PageVault" 11 Lib.Math.min.name : Cond) ∈ tables_1_1))
set_option maxRecDepth 100000 in
theorem ti_30 : (.methodLink "PageVault" 17 Lib.Math.max.name : Cond) ∈ lw_tbl := List.mem_append_right _ (List.mem_append_left _ (List.mem_of_getElem? (i := 21) rfl : (.methodLink "PageVault" 17 Lib.Math.max.name : Cond) ∈ tables_1_1))
set_option maxRecDepth 100000 in
theorem ti_31 : (.static Lib.Math.min.name : Cond) ∈ lw_tbl := List.mem_append_right _ (List.mem_append_left _ (List.mem_of_getElem? (i := 19) rfl : (.static Lib.Math.min.name : Cond) ∈ tables_1_1))
set_option maxRecDepth 100000 in
theorem ti_32 : (.static Lib.Math.max.name : Cond) ∈ lw_tbl := List.mem_append_right _ (List.mem_append_left _ (List.mem_of_getElem? (i := 22) rfl : (.static Lib.Math.max.name : Cond) ∈ tables_1_1))
set_option maxRecDepth 100000 in
theorem ti_33 : (.code Lib.Math.min.name Lib.Math.min.code 2 (some .int) : Cond) ∈ lw_tbl := List.mem_append_right _ (List.mem_append_left _ (List.mem_of_getElem? (i := 20) rfl : (.code Lib.Math.min.name Lib.Math.min.code 2 (some .int) : Cond) ∈ tables_1_1))
set_option maxRecDepth 100000 in
theorem ti_34 : (.code Lib.Math.max.name Lib.Math.max.code 2 (some .int) : Cond) ∈ lw_tbl := List.mem_append_right _ (List.mem_append_left _ (List.mem_of_getElem? (i := 23) rfl : (.code Lib.Math.max.name Lib.Math.max.code 2 (some .int) : Cond) ∈ tables_1_1))
set_option maxRecDepth 100000 in
theorem ti_35 : (.initialized "java/lang/Math" : Cond) ∈ lw_tbl := List.mem_append_right _ (List.mem_append_left _ (List.mem_of_getElem? (i := 3) rfl : (.initialized "java/lang/Math" : Cond) ∈ tables_1_1))
set_option maxRecDepth 100000 in
theorem ti_36 : (.initialized "PageVaultLaw" : Cond) ∈ lw_tbl := List.mem_append_right _ (List.mem_append_left _ (List.mem_of_getElem? (i := 0) rfl : (.initialized "PageVaultLaw" : Cond) ∈ tables_1_1))
set_option maxRecDepth 100000 in
theorem ti_37 : (.initialized "PageVault" : Cond) ∈ lw_tbl := List.mem_append_right _ (List.mem_append_left _ (List.mem_of_getElem? (i := 1) rfl : (.initialized "PageVault" : Cond) ∈ tables_1_1))
set_option maxRecDepth 100000 in
theorem ti_38 : (.initialized "PageVault$Frames" : Cond) ∈ lw_tbl := List.mem_append_right _ (List.mem_append_left _ (List.mem_of_getElem? (i := 2) rfl : (.initialized "PageVault$Frames" : Cond) ∈ tables_1_1))
set_option maxRecDepth 100000 in
theorem ti_39 : (.initialized "PageVault$Space" : Cond) ∈ lw_tbl := List.mem_append_right _ (List.mem_append_left _ (List.mem_of_getElem? (i := 4) rfl : (.initialized "PageVault$Space" : Cond) ∈ tables_1_1))
set_option maxRecDepth 100000 in
theorem ti_40 : (.initialized "PageVaultModel" : Cond) ∈ lw_tbl := List.mem_append_right _ (List.mem_append_left _ (List.mem_of_getElem? (i := 5) rfl : (.initialized "PageVaultModel" : Cond) ∈ tables_1_1))
set_option maxRecDepth 100000 in
theorem ti_41 : (.methodLink "PageVaultLaw" 9 y_L_cell : Cond) ∈ lw_tbl := List.mem_append_right _ (List.mem_append_right _ (List.mem_append_left _ (List.mem_of_getElem? (i := 110) rfl : (.methodLink "PageVaultLaw" 9 y_L_cell : Cond) ∈ tables_1_2)))
set_option maxRecDepth 100000 in
theorem ti_42 : (.static y_L_cell : Cond) ∈ lw_tbl := List.mem_append_right _ (List.mem_append_right _ (List.mem_append_left _ (List.mem_of_getElem? (i := 111) rfl : (.static y_L_cell : Cond) ∈ tables_1_2)))
set_option maxRecDepth 100000 in
theorem ti_43 : (.code y_L_cell b_L_cell 2 (some .int) : Cond) ∈ lw_tbl := List.mem_append_right _ (List.mem_append_right _ (List.mem_append_left _ (List.mem_of_getElem? (i := 112) rfl : (.code y_L_cell b_L_cell 2 (some .int) : Cond) ∈ tables_1_2)))
set_option maxRecDepth 100000 in
theorem ti_44 : (.fieldLink "PageVault$Frames" 11 "PageVault$Frames" "words" "[[I" : Cond) ∈ lw_tbl := List.mem_append_right _ (List.mem_append_left _ (List.mem_of_getElem? (i := 30) rfl : (.fieldLink "PageVault$Frames" 11 "PageVault$Frames" "words" "[[I" : Cond) ∈ tables_1_1))
set_option maxRecDepth 100000 in
theorem ti_45 : (.fieldLink "PageVault$Frames" 16 "PageVault$Frames" "holders" "[I" : Cond) ∈ lw_tbl := List.mem_append_right _ (List.mem_append_left _ (List.mem_of_getElem? (i := 31) rfl : (.fieldLink "PageVault$Frames" 16 "PageVault$Frames" "holders" "[I" : Cond) ∈ tables_1_1))
set_option maxRecDepth 100000 in
theorem ti_46 : (.fieldLink "PageVault$Frames" 20 "PageVault$Frames" "spare" "I" : Cond) ∈ lw_tbl := List.mem_append_right _ (List.mem_append_left _ (List.mem_of_getElem? (i := 32) rfl : (.fieldLink "PageVault$Frames" 20 "PageVault$Frames" "spare" "I" : Cond) ∈ tables_1_1))
set_option maxRecDepth 100000 in
theorem ti_47 : (.fieldLink "PageVault$Space" 9 "PageVault$Space" "frames" "LPageVault$Frames;" : Cond) ∈ lw_tbl := List.mem_append_right _ (List.mem_append_left _ (List.mem_of_getElem? (i := 48) rfl : (.fieldLink "PageVault$Space" 9 "PageVault$Space" "frames" "LPageVault$Frames;" : Cond) ∈ tables_1_1))
set_option maxRecDepth 100000 in
theorem ti_48 : (.fieldLink "PageVault$Space" 15 "PageVault$Space" "root" "I" : Cond) ∈ lw_tbl := List.mem_append_right _ (List.mem_append_left _ (List.mem_of_getElem? (i := 49) rfl : (.fieldLink "PageVault$Space" 15 "PageVault$Space" "root" "I" : Cond) ∈ tables_1_1))
set_option maxRecDepth 100000 in
theorem ti_49 : (.fieldLink "PageVault" 23 "PageVault" "frames" "LPageVault$Frames;" : Cond) ∈ lw_tbl := List.mem_append_right _ (List.mem_append_left _ (List.mem_of_getElem? (i := 58) rfl : (.fieldLink "PageVault" 23 "PageVault" "frames" "LPageVault$Frames;" : Cond) ∈ tables_1_1))
set_option maxRecDepth 100000 in
theorem ti_50 : (.fieldLink "PageVault" 29 "PageVault" "spaces" "[LPageVault$Space;" : Cond) ∈ lw_tbl := List.mem_append_right _ (List.mem_append_left _ (List.mem_of_getElem? (i := 59) rfl : (.fieldLink "PageVault" 29 "PageVault" "spaces" "[LPageVault$Space;" : Cond) ∈ tables_1_1))
set_option maxRecDepth 100000 in
theorem ti_51 : (.fieldLink "PageVault" 36 "PageVault" "buffer" "[I" : Cond) ∈ lw_tbl := List.mem_append_right _ (List.mem_append_left _ (List.mem_of_getElem? (i := 60) rfl : (.fieldLink "PageVault" 36 "PageVault" "buffer" "[I" : Cond) ∈ tables_1_1))
set_option maxRecDepth 100000 in
theorem ti_52 : (.fieldLink "PageVaultModel" 7 "PageVaultModel" "alive" "[Z" : Cond) ∈ lw_tbl := List.mem_append_right _ (List.mem_append_right _ (List.mem_append_left _ (List.mem_of_getElem? (i := 121) rfl : (.fieldLink "PageVaultModel" 7 "PageVaultModel" "alive" "[Z" : Cond) ∈ tables_1_2)))
set_option maxRecDepth 100000 in
theorem ti_53 : (.fieldLink "PageVaultModel" 13 "PageVaultModel" "ends" "[I" : Cond) ∈ lw_tbl := List.mem_append_right _ (List.mem_append_right _ (List.mem_append_left _ (List.mem_of_getElem? (i := 122) rfl : (.fieldLink "PageVaultModel" 13 "PageVaultModel" "ends" "[I" : Cond) ∈ tables_1_2)))
set_option maxRecDepth 100000 in
theorem ti_54 : (.fieldLink "PageVaultModel" 17 "PageVaultModel" "pageSpace" "[I" : Cond) ∈ lw_tbl := List.mem_append_right _ (List.mem_append_right _ (List.mem_append_left _ (List.mem_of_getElem? (i := 123) rfl : (.fieldLink "PageVaultModel" 17 "PageVaultModel" "pageSpace" "[I" : Cond) ∈ tables_1_2)))
set_option maxRecDepth 100000 in
theorem ti_55 : (.fieldLink "PageVaultModel" 20 "PageVaultModel" "pageNumber" "[I" : Cond) ∈ lw_tbl := List.mem_append_right _ (List.mem_append_right _ (List.mem_append_left _ (List.mem_of_getElem? (i := 124) rfl : (.fieldLink "PageVaultModel" 20 "PageVaultModel" "pageNumber" "[I" : Cond) ∈ tables_1_2)))
set_option maxRecDepth 100000 in
theorem ti_56 : (.fieldLink "PageVaultModel" 23 "PageVaultModel" "pageFlags" "[I" : Cond) ∈ lw_tbl := List.mem_append_right _ (List.mem_append_right _ (List.mem_append_left _ (List.mem_of_getElem? (i := 125) rfl : (.fieldLink "PageVaultModel" 23 "PageVaultModel" "pageFlags" "[I" : Cond) ∈ tables_1_2)))
set_option maxRecDepth 100000 in
theorem ti_57 : (.fieldLink "PageVaultModel" 26 "PageVaultModel" "pageKin" "[I" : Cond) ∈ lw_tbl := List.mem_append_right _ (List.mem_append_right _ (List.mem_append_left _ (List.mem_of_getElem? (i := 126) rfl : (.fieldLink "PageVaultModel" 26 "PageVaultModel" "pageKin" "[I" : Cond) ∈ tables_1_2)))
set_option maxRecDepth 100000 in
theorem ti_58 : (.fieldLink "PageVaultModel" 29 "PageVaultModel" "regionSpace" "[I" : Cond) ∈ lw_tbl := List.mem_append_right _ (List.mem_append_right _ (List.mem_append_left _ (List.mem_of_getElem? (i := 129) rfl : (.fieldLink "PageVaultModel" 29 "PageVaultModel" "regionSpace" "[I" : Cond) ∈ tables_1_2)))
set_option maxRecDepth 100000 in
theorem ti_59 : (.fieldLink "PageVaultModel" 32 "PageVaultModel" "regionNumber" "[I" : Cond) ∈ lw_tbl := List.mem_append_right _ (List.mem_append_right _ (List.mem_append_left _ (List.mem_of_getElem? (i := 130) rfl : (.fieldLink "PageVaultModel" 32 "PageVaultModel" "regionNumber" "[I" : Cond) ∈ tables_1_2)))
set_option maxRecDepth 100000 in
theorem ti_60 : (.fieldLink "PageVaultModel" 35 "PageVaultModel" "deed" "[I" : Cond) ∈ lw_tbl := List.mem_append_right _ (List.mem_append_right _ (List.mem_append_left _ (List.mem_of_getElem? (i := 132) rfl : (.fieldLink "PageVaultModel" 35 "PageVaultModel" "deed" "[I" : Cond) ∈ tables_1_2)))
set_option maxRecDepth 100000 in
theorem ti_61 : (.fieldLink "PageVaultModel" 38 "PageVaultModel" "who" "[I" : Cond) ∈ lw_tbl := List.mem_append_right _ (List.mem_append_right _ (List.mem_append_left _ (List.mem_of_getElem? (i := 133) rfl : (.fieldLink "PageVaultModel" 38 "PageVaultModel" "who" "[I" : Cond) ∈ tables_1_2)))
set_option maxRecDepth 100000 in
theorem ti_62 : (.fieldLink "PageVaultModel" 41 "PageVaultModel" "where" "[I" : Cond) ∈ lw_tbl := List.mem_append_right _ (List.mem_append_right _ (List.mem_append_left _ (List.mem_of_getElem? (i := 134) rfl : (.fieldLink "PageVaultModel" 41 "PageVaultModel" "where" "[I" : Cond) ∈ tables_1_2)))
set_option maxRecDepth 100000 in
theorem ti_63 : (.fieldLink "PageVaultModel" 44 "PageVaultModel" "much" "[I" : Cond) ∈ lw_tbl := List.mem_append_right _ (List.mem_append_right _ (List.mem_append_left _ (List.mem_of_getElem? (i := 135) rfl : (.fieldLink "PageVaultModel" 44 "PageVaultModel" "much" "[I" : Cond) ∈ tables_1_2)))
set_option maxRecDepth 100000 in
theorem ti_64 : (.fieldLink "PageVaultModel" 47 "PageVaultModel" "what" "[I" : Cond) ∈ lw_tbl := List.mem_append_right _ (List.mem_append_right _ (List.mem_append_left _ (List.mem_of_getElem? (i := 136) rfl : (.fieldLink "PageVaultModel" 47 "PageVaultModel" "what" "[I" : Cond) ∈ tables_1_2)))
set_option maxRecDepth 100000 in
theorem ti_65 : (.fieldLink "PageVaultModel" 50 "PageVaultModel" "frames" "I" : Cond) ∈ lw_tbl := List.mem_append_right _ (List.mem_append_right _ (List.mem_append_left _ (List.mem_of_getElem? (i := 119) rfl : (.fieldLink "PageVaultModel" 50 "PageVaultModel" "frames" "I" : Cond) ∈ tables_1_2)))
set_option maxRecDepth 100000 in
theorem ti_66 : (.fieldLink "PageVaultModel" 54 "PageVaultModel" "deeds" "I" : Cond) ∈ lw_tbl := List.mem_append_right _ (List.mem_append_right _ (List.mem_append_left _ (List.mem_of_getElem? (i := 137) rfl : (.fieldLink "PageVaultModel" 54 "PageVaultModel" "deeds" "I" : Cond) ∈ tables_1_2)))
set_option maxRecDepth 100000 in
theorem ti_67 : (.fieldLink "PageVaultModel" 57 "PageVaultModel" "pages" "I" : Cond) ∈ lw_tbl := List.mem_append_right _ (List.mem_append_right _ (List.mem_append_left _ (List.mem_of_getElem? (i := 127) rfl : (.fieldLink "PageVaultModel" 57 "PageVaultModel" "pages" "I" : Cond) ∈ tables_1_2)))
set_option maxRecDepth 100000 in
theorem ti_68 : (.code y_M_firstOfKin b_M_firstOfKin 3 (some .boolean) : Cond) ∈ lw_tbl := List.mem_append_right _ (List.mem_append_right _ (List.mem_append_left _ (List.mem_of_getElem? (i := 193) rfl : (.code y_M_firstOfKin b_M_firstOfKin 3 (some .boolean) : Cond) ∈ tables_1_2)))
set_option maxRecDepth 100000 in
theorem ti_69 : (.methodLink "PageVaultModel" 63 y_M_firstOfKin : Cond) ∈ lw_tbl := List.mem_append_right _ (List.mem_append_right _ (List.mem_append_left _ (List.mem_of_getElem? (i := 190) rfl : (.methodLink "PageVaultModel" 63 y_M_firstOfKin : Cond) ∈ tables_1_2)))
set_option maxRecDepth 100000 in
theorem ti_70 : (.instanceMethod y_M_firstOfKin : Cond) ∈ lw_tbl := List.mem_append_right _ (List.mem_append_right _ (List.mem_append_left _ (List.mem_of_getElem? (i := 192) rfl : (.instanceMethod y_M_firstOfKin : Cond) ∈ tables_1_2)))
set_option maxRecDepth 100000 in
theorem ti_71 : (.selects "PageVaultModel" y_M_firstOfKin y_M_firstOfKin : Cond) ∈ lw_tbl := List.mem_append_left _ (List.mem_of_getElem? (i := 18) rfl)
set_option maxRecDepth 100000 in
theorem ti_72 : (.fieldLink "PageVaultModel" 60 "PageVaultModel" "regions" "I" : Cond) ∈ lw_tbl := List.mem_append_right _ (List.mem_append_right _ (List.mem_append_left _ (List.mem_of_getElem? (i := 131) rfl : (.fieldLink "PageVaultModel" 60 "PageVaultModel" "regions" "I" : Cond) ∈ tables_1_2)))
set_option maxRecDepth 100000 in
theorem ti_73 : (.code y_M_freeFrames b_M_freeFrames 3 (some .int) : Cond) ∈ lw_tbl := List.mem_append_right _ (List.mem_append_right _ (List.mem_append_left _ (List.mem_of_getElem? (i := 189) rfl : (.code y_M_freeFrames b_M_freeFrames 3 (some .int) : Cond) ∈ tables_1_2)))
set_option maxRecDepth 100000 in
theorem ti_74 : (.methodLink "PageVaultModel" 67 y_M_freeFrames : Cond) ∈ lw_tbl := List.mem_append_right _ (List.mem_append_right _ (List.mem_append_left _ (List.mem_of_getElem? (i := 186) rfl : (.methodLink "PageVaultModel" 67 y_M_freeFrames : Cond) ∈ tables_1_2)))
set_option maxRecDepth 100000 in
theorem ti_75 : (.instanceMethod y_M_freeFrames : Cond) ∈ lw_tbl := List.mem_append_right _ (List.mem_append_right _ (List.mem_append_left _ (List.mem_of_getElem? (i := 188) rfl : (.instanceMethod y_M_freeFrames : Cond) ∈ tables_1_2)))
set_option maxRecDepth 100000 in
theorem ti_76 : (.selects "PageVaultModel" y_M_freeFrames y_M_freeFrames : Cond) ∈ lw_tbl := List.mem_append_left _ (List.mem_of_getElem? (i := 17) rfl)
set_option maxRecDepth 100000 in
theorem ti_77 : (.code y_M_hasRegion b_M_hasRegion 4 (some .boolean) : Cond) ∈ lw_tbl := List.mem_append_right _ (List.mem_append_right _ (List.mem_append_left _ (List.mem_of_getElem? (i := 225) rfl : (.code y_M_hasRegion b_M_hasRegion 4 (some .boolean) : Cond) ∈ tables_1_2)))
set_option maxRecDepth 100000 in
theorem ti_78 : (.methodLink "PageVaultModel" 71 y_M_hasRegion : Cond) ∈ lw_tbl := List.mem_append_right _ (List.mem_append_right _ (List.mem_append_left _ (List.mem_of_getElem? (i := 222) rfl : (.methodLink "PageVaultModel" 71 y_M_hasRegion : Cond) ∈ tables_1_2)))
set_option maxRecDepth 100000 in
theorem ti_79 : (.instanceMethod y_M_hasRegion : Cond) ∈ lw_tbl := List.mem_append_right _ (List.mem_append_right _ (List.mem_append_left _ (List.mem_of_getElem? (i := 224) rfl : (.instanceMethod y_M_hasRegion : Cond) ∈ tables_1_2)))
set_option maxRecDepth 100000 in
theorem ti_80 : (.selects "PageVaultModel" y_M_hasRegion y_M_hasRegion : Cond) ∈ lw_tbl := List.mem_append_left _ (List.mem_of_getElem? (i := 24) rfl)
set_option maxRecDepth 100000 in
theorem ti_81 : (.fieldLink "PageVaultModel" 75 "PageVaultModel" "kins" "I" : Cond) ∈ lw_tbl := List.mem_append_right _ (List.mem_append_right _ (List.mem_append_left _ (List.mem_of_getElem? (i := 128) rfl : (.fieldLink "PageVaultModel" 75 "PageVaultModel" "kins" "I" : Cond) ∈ tables_1_2)))
set_option maxRecDepth 100000 in
theorem ti_82 : (.code y_M_add b_M_add 5 none : Cond) ∈ lw_tbl := List.mem_append_right _ (List.mem_append_right _ (List.mem_append_left _ (List.mem_of_getElem? (i := 221) rfl : (.code y_M_add b_M_add 5 none : Cond) ∈ tables_1_2)))
set_option maxRecDepth 100000 in
theorem ti_83 : (.methodLink "PageVaultModel" 78 y_M_add : Cond) ∈ lw_tbl := List.mem_append_right _ (List.mem_append_right _ (List.mem_append_left _ (List.mem_of_getElem? (i := 218) rfl : (.methodLink "PageVaultModel" 78 y_M_add : Cond) ∈ tables_1_2)))
set_option maxRecDepth 100000 in
theorem ti_84 : (.instanceMethod y_M_add : Cond) ∈ lw_tbl := List.mem_append_right _ (List.mem_append_right _ (List.mem_append_left _ (List.mem_of_getElem? (i := 220) rfl : (.instanceMethod y_M_add : Cond) ∈ tables_1_2)))
set_option maxRecDepth 100000 in
theorem ti_85 : (.selects "PageVaultModel" y_M_add y_M_add : Cond) ∈ lw_tbl := List.mem_append_left _ (List.mem_of_getElem? (i := 23) rfl)
set_option maxRecDepth 100000 in
theorem ti_86 : (.code y_M_note b_M_note 6 none : Cond) ∈ lw_tbl := List.mem_append_right _ (List.mem_append_right _ (List.mem_append_left _ (List.mem_of_getElem? (i := 229) rfl : (.code y_M_note b_M_note 6 none : Cond) ∈ tables_1_2)))
set_option maxRecDepth 100000 in
theorem ti_87 : (.methodLink "PageVaultModel" 82 y_M_note : Cond) ∈ lw_tbl := List.mem_append_right _ (List.mem_append_right _ (List.mem_append_left _ (List.mem_of_getElem? (i := 226) rfl : (.methodLink "PageVaultModel" 82 y_M_note : Cond) ∈ tables_1_2)))
set_option maxRecDepth 100000 in
theorem ti_88 : (.instanceMethod y_M_note : Cond) ∈ lw_tbl := List.mem_append_right _ (List.mem_append_right _ (List.mem_append_left _ (List.mem_of_getElem? (i := 228) rfl : (.instanceMethod y_M_note : Cond) ∈ tables_1_2)))
set_option maxRecDepth 100000 in
theorem ti_89 : (.selects "PageVaultModel" y_M_note y_M_note : Cond) ∈ lw_tbl := List.mem_append_left _ (List.mem_of_getElem? (i := 25) rfl)
set_option maxRecDepth 100000 in
theorem ti_90 : (.constant "PageVaultModel" 86 1073741824 : Cond) ∈ lw_tbl := List.mem_append_right _ (List.mem_append_right _ (List.mem_append_left _ (List.mem_of_getElem? (i := 234) rfl : (.constant "PageVaultModel" 86 1073741824 : Cond) ∈ tables_1_2)))
set_option maxRecDepth 100000 in
theorem ti_91 : (.code y_M_row b_M_row 4 (some .int) : Cond) ∈ lw_tbl := List.mem_append_right _ (List.mem_append_right _ (List.mem_append_left _ (List.mem_of_getElem? (i := 238) rfl : (.code y_M_row b_M_row 4 (some .int) : Cond) ∈ tables_1_2)))
set_option maxRecDepth 100000 in
theorem ti_92 : (.methodLink "PageVaultModel" 87 y_M_row : Cond) ∈ lw_tbl := List.mem_append_right _ (List.mem_append_right _ (List.mem_append_left _ (List.mem_of_getElem? (i := 235) rfl : (.methodLink "PageVaultModel" 87 y_M_row : Cond) ∈ tables_1_2)))
set_option maxRecDepth 100000 in
theorem ti_93 : (.instanceMethod y_M_row : Cond) ∈ lw_tbl := List.mem_append_right _ (List.mem_append_right _ (List.mem_append_left _ (List.mem_of_getElem? (i := 237) rfl : (.instanceMethod y_M_row : Cond) ∈ tables_1_2)))
set_option maxRecDepth 100000 in
theorem ti_94 : (.selects "PageVaultModel" y_M_row y_M_row : Cond) ∈ lw_tbl := List.mem_append_left _ (List.mem_of_getElem? (i := 26) rfl)
set_option maxRecDepth 100000 in
theorem ti_95 : (.code y_M_sharers b_M_sharers 4 (some .int) : Cond) ∈ lw_tbl := List.mem_append_right _ (List.mem_append_right _ (List.mem_append_right _ ((List.mem_of_getElem? (i := 35) rfl : (.code y_M_sharers b_M_sharers 4 (some .int) : Cond) ∈ tables_1_3))))
set_option maxRecDepth 100000 in
theorem ti_96 : (.methodLink "PageVaultModel" 98 y_M_sharers : Cond) ∈ lw_tbl := List.mem_append_right _ (List.mem_append_right _ (List.mem_append_right _ ((List.mem_of_getElem? (i := 32) rfl : (.methodLink "PageVaultModel" 98 y_M_sharers : Cond) ∈ tables_1_3))))
set_option maxRecDepth 100000 in
theorem ti_97 : (.instanceMethod y_M_sharers : Cond) ∈ lw_tbl := List.mem_append_right _ (List.mem_append_right _ (List.mem_append_right _ ((List.mem_of_getElem? (i := 34) rfl : (.instanceMethod y_M_sharers : Cond) ∈ tables_1_3))))
set_option maxRecDepth 100000 in
theorem ti_98 : (.selects "PageVaultModel" y_M_sharers y_M_sharers : Cond) ∈ lw_tbl := List.mem_append_left _ (List.mem_of_getElem? (i := 31) rfl)
set_option maxRecDepth 100000 in
theorem ti_99 : (.code y_M_room b_M_room 3 (some .boolean) : Cond) ∈ lw_tbl := List.mem_append_right _ (List.mem_append_right _ (List.mem_append_right _ ((List.mem_of_getElem? (i := 2) rfl : (.code y_M_room b_M_room 3 (some .boolean) : Cond) ∈ tables_1_3))))
set_option maxRecDepth 100000 in
theorem ti_100 : (.methodLink "PageVaultModel" 91 y_M_room : Cond) ∈ lw_tbl := List.mem_append_right _ (List.mem_append_right _ (List.mem_append_left _ (List.mem_of_getElem? (i := 239) rfl : (.methodLink "PageVaultModel" 91 y_M_room : Cond) ∈ tables_1_2)))
set_option maxRecDepth 100000 in
theorem ti_101 : (.instanceMethod y_M_room : Cond) ∈ lw_tbl := List.mem_append_right _ (List.mem_append_right _ (List.mem_append_right _ ((List.mem_of_getElem? (i := 1) rfl : (.instanceMethod y_M_room : Cond) ∈ tables_1_3))))
set_option maxRecDepth 100000 in
theorem ti_102 : (.selects "PageVaultModel" y_M_room y_M_room : Cond) ∈ lw_tbl := List.mem_append_left _ (List.mem_of_getElem? (i := 27) rfl)
set_option maxRecDepth 100000 in
theorem ti_103 : (.code y_M_addEmpty b_M_addEmpty 4 none : Cond) ∈ lw_tbl := List.mem_append_right _ (List.mem_append_right _ (List.mem_append_right _ ((List.mem_of_getElem? (i := 6) rfl : (.code y_M_addEmpty b_M_addEmpty 4 none : Cond) ∈ tables_1_3))))
set_option maxRecDepth 100000 in
theorem ti_104 : (.methodLink "PageVaultModel" 94 y_M_addEmpty : Cond) ∈ lw_tbl := List.mem_append_right _ (List.mem_append_right _ (List.mem_append_right _ ((List.mem_of_getElem? (i := 3) rfl : (.methodLink "PageVaultModel" 94 y_M_addEmpty : Cond) ∈ tables_1_3))))
set_option maxRecDepth 100000 in
theorem ti_105 : (.instanceMethod y_M_addEmpty : Cond) ∈ lw_tbl := List.mem_append_right _ (List.mem_append_right _ (List.mem_append_right _ ((List.mem_of_getElem? (i := 5) rfl : (.instanceMethod y_M_addEmpty : Cond) ∈ tables_1_3))))
set_option maxRecDepth 100000 in
theorem ti_106 : (.selects "PageVaultModel" y_M_addEmpty y_M_addEmpty : Cond) ∈ lw_tbl := List.mem_append_left _ (List.mem_of_getElem? (i := 28) rfl)
set_option maxRecDepth 100000 in
theorem ti_107 : (.code y_M_lives b_M_lives 2 (some .boolean) : Cond) ∈ lw_tbl := List.mem_append_right _ (List.mem_append_right _ (List.mem_append_left _ (List.mem_of_getElem? (i := 201) rfl : (.code y_M_lives b_M_lives 2 (some .boolean) : Cond) ∈ tables_1_2)))
set_option maxRecDepth 100000 in
theorem ti_108 : (.methodLink "PageVaultModel" 105 y_M_lives : Cond) ∈ lw_tbl := List.mem_append_right _ (List.mem_append_right _ (List.mem_append_left _ (List.mem_of_getElem? (i := 198) rfl : (.methodLink "PageVaultModel" 105 y_M_lives : Cond) ∈ tables_1_2)))
set_option maxRecDepth 100000 in
theorem ti_109 : (.instanceMethod y_M_lives : Cond) ∈ lw_tbl := List.mem_append_right _ (List.mem_append_right _ (List.mem_append_left _ (List.mem_of_getElem? (i := 200) rfl : (.instanceMethod y_M_lives : Cond) ∈ tables_1_2)))
set_option maxRecDepth 100000 in
theorem ti_110 : (.selects "PageVaultModel" y_M_lives y_M_lives : Cond) ∈ lw_tbl := List.mem_append_left _ (List.mem_of_getElem? (i := 19) rfl)
set_option maxRecDepth 100000 in
theorem ti_111 : (.fieldLink "PageVaultModel" 102 "PageVaultModel" "lastTrap" "I" : Cond) ∈ lw_tbl := List.mem_append_right _ (List.mem_append_right _ (List.mem_append_left _ (List.mem_of_getElem? (i := 120) rfl : (.fieldLink "PageVaultModel" 102 "PageVaultModel" "lastTrap" "I" : Cond) ∈ tables_1_2)))
set_option maxRecDepth 100000 in
theorem ti_112 : (.code y_M_touch b_M_touch 5 (some .int) : Cond) ∈ lw_tbl := List.mem_append_right _ (List.mem_append_right _ (List.mem_append_right _ ((List.mem_of_getElem? (i := 31) rfl : (.code y_M_touch b_M_touch 5 (some .int) : Cond) ∈ tables_1_3))))
set_option maxRecDepth 100000 in
theorem ti_113 : (.methodLink "PageVaultModel" 108 y_M_touch : Cond) ∈ lw_tbl := List.mem_append_right _ (List.mem_append_right _ (List.mem_append_right _ ((List.mem_of_getElem? (i := 28) rfl : (.methodLink "PageVaultModel" 108 y_M_touch : Cond) ∈ tables_1_3))))
set_option maxRecDepth 100000 in
theorem ti_114 : (.instanceMethod y_M_touch : Cond) ∈ lw_tbl := List.mem_append_right _ (List.mem_append_right _ (List.mem_append_right _ ((List.mem_of_getElem? (i := 30) rfl : (.instanceMethod y_M_touch : Cond) ∈ tables_1_3))))
set_option maxRecDepth 100000 in
theorem ti_115 : (.selects "PageVaultModel" y_M_touch y_M_touch : Cond) ∈ lw_tbl := List.mem_append_left _ (List.mem_of_getElem? (i := 30) rfl)
set_option maxRecDepth 100000 in
theorem ti_116 : (.code y_M_byteOf b_M_byteOf 9 (some .int) : Cond) ∈ lw_tbl := List.mem_append_right _ (List.mem_append_right _ (List.mem_append_right _ ((List.mem_of_getElem? (i := 43) rfl : (.code y_M_byteOf b_M_byteOf 9 (some .int) : Cond) ∈ tables_1_3))))
set_option maxRecDepth 100000 in
theorem ti_117 : (.methodLink "PageVaultModel" 112 y_M_byteOf : Cond) ∈ lw_tbl := List.mem_append_right _ (List.mem_append_right _ (List.mem_append_right _ ((List.mem_of_getElem? (i := 40) rfl : (.methodLink "PageVaultModel" 112 y_M_byteOf : Cond) ∈ tables_1_3))))
set_option maxRecDepth 100000 in
theorem ti_118 : (.instanceMethod y_M_byteOf : Cond) ∈ lw_tbl := List.mem_append_right _ (List.mem_append_right _ (List.mem_append_right _ ((List.mem_of_getElem? (i := 42) rfl : (.instanceMethod y_M_byteOf : Cond) ∈ tables_1_3))))
set_option maxRecDepth 100000 in
theorem ti_119 : (.selects "PageVaultModel" y_M_byteOf y_M_byteOf : Cond) ∈ lw_tbl := List.mem_append_left _ (List.mem_of_getElem? (i := 33) rfl)
set_option maxRecDepth 100000 in
theorem ti_120 : (.code y_M_unused b_M_unused 2 (some .int) : Cond) ∈ lw_tbl := List.mem_append_right _ (List.mem_append_right _ (List.mem_append_left _ (List.mem_of_getElem? (i := 185) rfl : (.code y_M_unused b_M_unused 2 (some .int) : Cond) ∈ tables_1_2)))
set_option maxRecDepth 100000 in
theorem ti_121 : (.methodLink "PageVaultModel" 115 y_M_unused : Cond) ∈ lw_tbl := List.mem_append_right _ (List.mem_append_right _ (List.mem_append_left _ (List.mem_of_getElem? (i := 182) rfl : (.methodLink "PageVaultModel" 115 y_M_unused : Cond) ∈ tables_1_2)))
set_option maxRecDepth 100000 in
theorem ti_122 : (.instanceMethod y_M_unused : Cond) ∈ lw_tbl := List.mem_append_right _ (List.mem_append_right _ (List.mem_append_left _ (List.mem_of_getElem? (i := 184) rfl : (.instanceMethod y_M_unused : Cond) ∈ tables_1_2)))
set_option maxRecDepth 100000 in
theorem ti_123 : (.selects "PageVaultModel" y_M_unused y_M_unused : Cond) ∈ lw_tbl := List.mem_append_left _ (List.mem_of_getElem? (i := 16) rfl)
set_option maxRecDepth 100000 in
theorem ti_124 : (.code y_M_removePages b_M_removePages 5 none : Cond) ∈ lw_tbl := List.mem_append_right _ (List.mem_append_right _ (List.mem_append_left _ (List.mem_of_getElem? (i := 205) rfl : (.code y_M_removePages b_M_removePages 5 none : Cond) ∈ tables_1_2)))
set_option maxRecDepth 100000 in
theorem ti_125 : (.methodLink "PageVaultModel" 118 y_M_removePages : Cond) ∈ lw_tbl := List.mem_append_right _ (List.mem_append_right _ (List.mem_append_left _ (List.mem_of_getElem? (i := 202) rfl : (.methodLink "PageVaultModel" 118 y_M_removePages : Cond) ∈ tables_1_2)))
set_option maxRecDepth 100000 in
theorem ti_126 : (.instanceMethod y_M_removePages : Cond) ∈ lw_tbl := List.mem_append_right _ (List.mem_append_right _ (List.mem_append_left _ (List.mem_of_getElem? (i := 204) rfl : (.instanceMethod y_M_removePages : Cond) ∈ tables_1_2)))
set_option maxRecDepth 100000 in
theorem ti_127 : (.selects "PageVaultModel" y_M_removePages y_M_removePages : Cond) ∈ lw_tbl := List.mem_append_left _ (List.mem_of_getElem? (i := 20) rfl)
set_option maxRecDepth 100000 in
theorem ti_128 : (.code y_M_removeRegions b_M_removeRegions 4 none : Cond) ∈ lw_tbl := List.mem_append_right _ (List.mem_append_right _ (List.mem_append_left _ (List.mem_of_getElem? (i := 209) rfl : (.code y_M_removeRegions b_M_removeRegions 4 none : Cond) ∈ tables_1_2)))
set_option maxRecDepth 100000 in
theorem ti_129 : (.methodLink "PageVaultModel" 122 y_M_removeRegions : Cond) ∈ lw_tbl := List.mem_append_right _ (List.mem_append_right _ (List.mem_append_left _ (List.mem_of_getElem? (i := 206) rfl : (.methodLink "PageVaultModel" 122 y_M_removeRegions : Cond) ∈ tables_1_2)))
set_option maxRecDepth 100000 in
theorem ti_130 : (.instanceMethod y_M_removeRegions : Cond) ∈ lw_tbl := List.mem_append_right _ (List.mem_append_right _ (List.mem_append_left _ (List.mem_of_getElem? (i := 208) rfl : (.instanceMethod y_M_removeRegions : Cond) ∈ tables_1_2)))
set_option maxRecDepth 100000 in
theorem ti_131 : (.selects "PageVaultModel" y_M_removeRegions y_M_removeRegions : Cond) ∈ lw_tbl := List.mem_append_left _ (List.mem_of_getElem? (i := 21) rfl)
set_option maxRecDepth 100000 in
theorem ti_132 : (.code y_M_peopled b_M_peopled 6 (some .int) : Cond) ∈ lw_tbl := List.mem_append_right _ (List.mem_append_right _ (List.mem_append_left _ (List.mem_of_getElem? (i := 217) rfl : (.code y_M_peopled b_M_peopled 6 (some .int) : Cond) ∈ tables_1_2)))
set_option maxRecDepth 100000 in
theorem ti_133 : (.methodLink "PageVaultModel" 126 y_M_peopled : Cond) ∈ lw_tbl := List.mem_append_right _ (List.mem_append_right _ (List.mem_append_left _ (List.mem_of_getElem? (i := 214) rfl : (.methodLink "PageVaultModel" 126 y_M_peopled : Cond) ∈ tables_1_2)))
set_option maxRecDepth 100000 in
theorem ti_134 : (.instanceMethod y_M_peopled : Cond) ∈ lw_tbl := List.mem_append_right _ (List.mem_append_right _ (List.mem_append_left _ (List.mem_of_getElem? (i := 216) rfl : (.instanceMethod y_M_peopled : Cond) ∈ tables_1_2)))
set_option maxRecDepth 100000 in
theorem ti_135 : (.selects "PageVaultModel" y_M_peopled y_M_peopled : Cond) ∈ lw_tbl := List.mem_append_left _ (List.mem_of_getElem? (i := 22) rfl)
set_option maxRecDepth 100000 in
theorem ti_136 : (.constantLong "PageVaultModel" 129 1073741824 : Cond) ∈ lw_tbl := List.mem_append_right _ (List.mem_append_right _ (List.mem_append_right _ ((List.mem_of_getElem? (i := 15) rfl : (.constantLong "PageVaultModel" 129 1073741824 : Cond) ∈ tables_1_3))))
set_option maxRecDepth 100000 in
theorem ti_137 : (.code y_M_aimed b_M_aimed 5 (some .boolean) : Cond) ∈ lw_tbl := List.mem_append_right _ (List.mem_append_right _ (List.mem_append_right _ ((List.mem_of_getElem? (i := 27) rfl : (.code y_M_aimed b_M_aimed 5 (some .boolean) : Cond) ∈ tables_1_3))))
set_option maxRecDepth 100000 in
theorem ti_138 : (.methodLink "PageVaultModel" 131 y_M_aimed : Cond) ∈ lw_tbl := List.mem_append_right _ (List.mem_append_right _ (List.mem_append_right _ ((List.mem_of_getElem? (i := 24) rfl : (.methodLink "PageVaultModel" 131 y_M_aimed : Cond) ∈ tables_1_3))))
set_option maxRecDepth 100000 in
theorem ti_139 : (.instanceMethod y_M_aimed : Cond) ∈ lw_tbl := List.mem_append_right _ (List.mem_append_right _ (List.mem_append_right _ ((List.mem_of_getElem? (i := 26) rfl : (.instanceMethod y_M_aimed : Cond) ∈ tables_1_3))))
set_option maxRecDepth 100000 in
theorem ti_140 : (.selects "PageVaultModel" y_M_aimed y_M_aimed : Cond) ∈ lw_tbl := List.mem_append_left _ (List.mem_of_getElem? (i := 29) rfl)
set_option maxRecDepth 100000 in
theorem ti_141 : (.code y_M_number b_M_number 6 (some .int) : Cond) ∈ lw_tbl := List.mem_append_right _ (List.mem_append_right _ (List.mem_append_right _ ((List.mem_of_getElem? (i := 39) rfl : (.code y_M_number b_M_number 6 (some .int) : Cond) ∈ tables_1_3))))
set_option maxRecDepth 100000 in
theorem ti_142 : (.methodLink "PageVaultModel" 135 y_M_number : Cond) ∈ lw_tbl := List.mem_append_right _ (List.mem_append_right _ (List.mem_append_right _ ((List.mem_of_getElem? (i := 36) rfl : (.methodLink "PageVaultModel" 135 y_M_number : Cond) ∈ tables_1_3))))
set_option maxRecDepth 100000 in
theorem ti_143 : (.instanceMethod y_M_number : Cond) ∈ lw_tbl := List.mem_append_right _ (List.mem_append_right _ (List.mem_append_right _ ((List.mem_of_getElem? (i := 38) rfl : (.instanceMethod y_M_number : Cond) ∈ tables_1_3))))
set_option maxRecDepth 100000 in
theorem ti_144 : (.selects "PageVaultModel" y_M_number y_M_number : Cond) ∈ lw_tbl := List.mem_append_left _ (List.mem_of_getElem? (i := 32) rfl)
set_option maxRecDepth 100000 in
theorem ti_145 : (.code y_M_walk b_M_walk 6 (some .int) : Cond) ∈ lw_tbl := List.mem_append_right _ (List.mem_append_right _ (List.mem_append_right _ ((List.mem_of_getElem? (i := 63) rfl : (.code y_M_walk b_M_walk 6 (some .int) : Cond) ∈ tables_1_3))))
set_option maxRecDepth 100000 in
theorem ti_146 : (.methodLink "PageVaultModel" 138 y_M_walk : Cond) ∈ lw_tbl := List.mem_append_right _ (List.mem_append_right _ (List.mem_append_right _ ((List.mem_of_getElem? (i := 60) rfl : (.methodLink "PageVaultModel" 138 y_M_walk : Cond) ∈ tables_1_3))))
set_option maxRecDepth 100000 in
theorem ti_147 : (.instanceMethod y_M_walk : Cond) ∈ lw_tbl := List.mem_append_right _ (List.mem_append_right _ (List.mem_append_right _ ((List.mem_of_getElem? (i := 62) rfl : (.instanceMethod y_M_walk : Cond) ∈ tables_1_3))))
set_option maxRecDepth 100000 in
theorem ti_148 : (.selects "PageVaultModel" y_M_walk y_M_walk : Cond) ∈ lw_tbl := List.mem_append_left _ (List.mem_of_getElem? (i := 34) rfl)
set_option maxRecDepth 100000 in
theorem ti_149 : (.code y_M_came b_M_came 4 none : Cond) ∈ lw_tbl := List.mem_append_right _ (List.mem_append_right _ (List.mem_append_right _ ((List.mem_of_getElem? (i := 71) rfl : (.code y_M_came b_M_came 4 none : Cond) ∈ tables_1_3))))
set_option maxRecDepth 100000 in
theorem ti_150 : (.methodLink "PageVaultModel" 142 y_M_came : Cond) ∈ lw_tbl := List.mem_append_right _ (List.mem_append_right _ (List.mem_append_right _ ((List.mem_of_getElem? (i := 68) rfl : (.methodLink "PageVaultModel" 142 y_M_came : Cond) ∈ tables_1_3))))
set_option maxRecDepth 100000 in
theorem ti_151 : (.instanceMethod y_M_came : Cond) ∈ lw_tbl := List.mem_append_right _ (List.mem_append_right _ (List.mem_append_right _ ((List.mem_of_getElem? (i := 70) rfl : (.instanceMethod y_M_came : Cond) ∈ tables_1_3))))
set_option maxRecDepth 100000 in
theorem ti_152 : (.selects "PageVaultModel" y_M_came y_M_came : Cond) ∈ lw_tbl := List.mem_append_left _ (List.mem_of_getElem? (i := 35) rfl)
set_option maxRecDepth 100000 in
theorem ti_153 : (.code y_S_isOpen b_S_isOpen 1 (some .boolean) : Cond) ∈ lw_tbl := List.mem_append_right _ (List.mem_append_left _ (List.mem_of_getElem? (i := 82) rfl : (.code y_S_isOpen b_S_isOpen 1 (some .boolean) : Cond) ∈ tables_1_1))
set_option maxRecDepth 100000 in
theorem ti_154 : (.methodLink "PageVault" 131 y_S_isOpen : Cond) ∈ lw_tbl := List.mem_append_right _ (List.mem_append_left _ (List.mem_of_getElem? (i := 79) rfl : (.methodLink "PageVault" 131 y_S_isOpen : Cond) ∈ tables_1_1))
set_option maxRecDepth 100000 in
theorem ti_155 : (.instanceMethod y_S_isOpen : Cond) ∈ lw_tbl := List.mem_append_right _ (List.mem_append_left _ (List.mem_of_getElem? (i := 80) rfl : (.instanceMethod y_S_isOpen : Cond) ∈ tables_1_1))
set_option maxRecDepth 100000 in
theorem ti_156 : (.selects "PageVault$Space" y_S_isOpen y_S_isOpen : Cond) ∈ lw_tbl := List.mem_append_right _ (List.mem_append_left _ (List.mem_of_getElem? (i := 81) rfl : (.selects "PageVault$Space" y_S_isOpen y_S_isOpen : Cond) ∈ tables_1_1))
set_option maxRecDepth 100000 in
theorem ti_157 : (.code y_V_leastUnused b_V_leastUnused 2 (some .int) : Cond) ∈ lw_tbl := List.mem_append_right _ (List.mem_append_left _ (List.mem_of_getElem? (i := 78) rfl : (.code y_V_leastUnused b_V_leastUnused 2 (some .int) : Cond) ∈ tables_1_1))
set_option maxRecDepth 100000 in
theorem ti_158 : (.methodLink "PageVault" 40 y_V_leastUnused : Cond) ∈ lw_tbl := List.mem_append_right _ (List.mem_append_left _ (List.mem_of_getElem? (i := 75) rfl : (.methodLink "PageVault" 40 y_V_leastUnused : Cond) ∈ tables_1_1))
set_option maxRecDepth 100000 in
theorem ti_159 : (.instanceMethod y_V_leastUnused : Cond) ∈ lw_tbl := List.mem_append_right _ (List.mem_append_left _ (List.mem_of_getElem? (i := 77) rfl : (.instanceMethod y_V_leastUnused : Cond) ∈ tables_1_1))
set_option maxRecDepth 100000 in
theorem ti_160 : (.selects "PageVault" y_V_leastUnused y_V_leastUnused : Cond) ∈ lw_tbl := List.mem_append_left _ (List.mem_of_getElem? (i := 0) rfl)
set_option maxRecDepth 100000 in
theorem ti_161 : (.code y_F_spare b_F_spare 1 (some .int) : Cond) ∈ lw_tbl := List.mem_append_right _ (List.mem_append_left _ (List.mem_of_getElem? (i := 86) rfl : (.code y_F_spare b_F_spare 1 (some .int) : Cond) ∈ tables_1_1))
set_option maxRecDepth 100000 in
theorem ti_162 : (.methodLink "PageVault" 44 y_F_spare : Cond) ∈ lw_tbl := List.mem_append_right _ (List.mem_append_left _ (List.mem_of_getElem? (i := 83) rfl : (.methodLink "PageVault" 44 y_F_spare : Cond) ∈ tables_1_1))
set_option maxRecDepth 100000 in
theorem ti_163 : (.instanceMethod y_F_spare : Cond) ∈ lw_tbl := List.mem_append_right _ (List.mem_append_left _ (List.mem_of_getElem? (i := 84) rfl : (.instanceMethod y_F_spare : Cond) ∈ tables_1_1))
set_option maxRecDepth 100000 in
theorem ti_164 : (.selects "PageVault$Frames" y_F_spare y_F_spare : Cond) ∈ lw_tbl := List.mem_append_right _ (List.mem_append_left _ (List.mem_of_getElem? (i := 85) rfl : (.selects "PageVault$Frames" y_F_spare y_F_spare : Cond) ∈ tables_1_1))
set_option maxRecDepth 100000 in
theorem ti_165 : (.code y_A_fill b_A_fill 4 none : Cond) ∈ lw_tbl := List.mem_append_right _ (List.mem_append_left _ (List.mem_of_getElem? (i := 97) rfl : (.code y_A_fill b_A_fill 4 none : Cond) ∈ tables_1_1))
set_option maxRecDepth 100000 in
theorem ti_166 : (.initialized "java/util/Arrays" : Cond) ∈ lw_tbl := List.mem_append_right _ (List.mem_append_left _ (List.mem_of_getElem? (i := 6) rfl : (.initialized "java/util/Arrays" : Cond) ∈ tables_1_1))
set_option maxRecDepth 100000 in
theorem ti_167 : (.methodLink "PageVault$Frames" 24 y_A_fill : Cond) ∈ lw_tbl := List.mem_append_right _ (List.mem_append_left _ (List.mem_of_getElem? (i := 95) rfl : (.methodLink "PageVault$Frames" 24 y_A_fill : Cond) ∈ tables_1_1))
set_option maxRecDepth 100000 in
theorem ti_168 : (.static y_A_fill : Cond) ∈ lw_tbl := List.mem_append_right _ (List.mem_append_left _ (List.mem_of_getElem? (i := 96) rfl : (.static y_A_fill : Cond) ∈ tables_1_1))
set_option maxRecDepth 100000 in
theorem ti_169 : (.code y_F_take b_F_take 2 (some .int) : Cond) ∈ lw_tbl := List.mem_append_right _ (List.mem_append_left _ (List.mem_of_getElem? (i := 94) rfl : (.code y_F_take b_F_take 2 (some .int) : Cond) ∈ tables_1_1))
set_option maxRecDepth 100000 in
theorem ti_170 : (.methodLink "PageVault$Space" 22 y_F_take : Cond) ∈ lw_tbl := List.mem_append_right _ (List.mem_append_left _ (List.mem_of_getElem? (i := 91) rfl : (.methodLink "PageVault$Space" 22 y_F_take : Cond) ∈ tables_1_1))
set_option maxRecDepth 100000 in
theorem ti_171 : (.instanceMethod y_F_take : Cond) ∈ lw_tbl := List.mem_append_right _ (List.mem_append_left _ (List.mem_of_getElem? (i := 92) rfl : (.instanceMethod y_F_take : Cond) ∈ tables_1_1))
set_option maxRecDepth 100000 in
theorem ti_172 : (.selects "PageVault$Frames" y_F_take y_F_take : Cond) ∈ lw_tbl := List.mem_append_right _ (List.mem_append_left _ (List.mem_of_getElem? (i := 93) rfl : (.selects "PageVault$Frames" y_F_take y_F_take : Cond) ∈ tables_1_1))
set_option maxRecDepth 100000 in
theorem ti_173 : (.fieldLink "PageVault$Space" 19 "PageVault$Space" "length" "I" : Cond) ∈ lw_tbl := List.mem_append_right _ (List.mem_append_left _ (List.mem_of_getElem? (i := 50) rfl : (.fieldLink "PageVault$Space" 19 "PageVault$Space" "length" "I" : Cond) ∈ tables_1_1))
set_option maxRecDepth 100000 in
theorem ti_174 : (.code y_S_open b_S_open 2 none : Cond) ∈ lw_tbl := List.mem_append_right _ (List.mem_append_left _ (List.mem_of_getElem? (i := 90) rfl : (.code y_S_open b_S_open 2 none : Cond) ∈ tables_1_1))
set_option maxRecDepth 100000 in
theorem ti_175 : (.methodLink "PageVault" 47 y_S_open : Cond) ∈ lw_tbl := List.mem_append_right _ (List.mem_append_left _ (List.mem_of_getElem? (i := 87) rfl : (.methodLink "PageVault" 47 y_S_open : Cond) ∈ tables_1_1))
set_option maxRecDepth 100000 in
theorem ti_176 : (.instanceMethod y_S_open : Cond) ∈ lw_tbl := List.mem_append_right _ (List.mem_append_left _ (List.mem_of_getElem? (i := 88) rfl : (.instanceMethod y_S_open : Cond) ∈ tables_1_1))
set_option maxRecDepth 100000 in
theorem ti_177 : (.selects "PageVault$Space" y_S_open y_S_open : Cond) ∈ lw_tbl := List.mem_append_right _ (List.mem_append_left _ (List.mem_of_getElem? (i := 89) rfl : (.selects "PageVault$Space" y_S_open y_S_open : Cond) ∈ tables_1_1))
set_option maxRecDepth 100000 in
theorem ti_178 : (.code y_V_find b_V_find 2 (some (.object "PageVault$Space")) : Cond) ∈ lw_tbl := List.mem_append_right _ (List.mem_append_left _ (List.mem_of_getElem? (i := 105) rfl : (.code y_V_find b_V_find 2 (some (.object "PageVault$Space")) : Cond) ∈ tables_1_1))
set_option maxRecDepth 100000 in
theorem ti_179 : (.methodLink "PageVault" 50 y_V_find : Cond) ∈ lw_tbl := List.mem_append_right _ (List.mem_append_left _ (List.mem_of_getElem? (i := 102) rfl : (.methodLink "PageVault" 50 y_V_find : Cond) ∈ tables_1_1))
set_option maxRecDepth 100000 in
theorem ti_180 : (.instanceMethod y_V_find : Cond) ∈ lw_tbl := List.mem_append_right _ (List.mem_append_left _ (List.mem_of_getElem? (i := 104) rfl : (.instanceMethod y_V_find : Cond) ∈ tables_1_1))
set_option maxRecDepth 100000 in
theorem ti_181 : (.selects "PageVault" y_V_find y_V_find : Cond) ∈ lw_tbl := List.mem_append_left _ (List.mem_of_getElem? (i := 1) rfl)
set_option maxRecDepth 100000 in
theorem ti_182 : (.code y_F_isFrame b_F_isFrame 2 (some .boolean) : Cond) ∈ lw_tbl := List.mem_append_right _ (List.mem_append_left _ (List.mem_of_getElem? (i := 132) rfl : (.code y_F_isFrame b_F_isFrame 2 (some .boolean) : Cond) ∈ tables_1_1))
set_option maxRecDepth 100000 in
theorem ti_183 : (.methodLink "PageVault$Frames" 30 y_F_isFrame : Cond) ∈ lw_tbl := List.mem_append_right _ (List.mem_append_left _ (List.mem_of_getElem? (i := 129) rfl : (.methodLink "PageVault$Frames" 30 y_F_isFrame : Cond) ∈ tables_1_1))
set_option maxRecDepth 100000 in
theorem ti_184 : (.instanceMethod y_F_isFrame : Cond) ∈ lw_tbl := List.mem_append_right _ (List.mem_append_left _ (List.mem_of_getElem? (i := 131) rfl : (.instanceMethod y_F_isFrame : Cond) ∈ tables_1_1))
set_option maxRecDepth 100000 in
theorem ti_185 : (.selects "PageVault$Frames" y_F_isFrame y_F_isFrame : Cond) ∈ lw_tbl := List.mem_append_left _ (List.mem_of_getElem? (i := 4) rfl)
set_option maxRecDepth 100000 in
theorem ti_186 : (.code y_F_release b_F_release 2 none : Cond) ∈ lw_tbl := List.mem_append_right _ (List.mem_append_left _ (List.mem_of_getElem? (i := 128) rfl : (.code y_F_release b_F_release 2 none : Cond) ∈ tables_1_1))
set_option maxRecDepth 100000 in
theorem ti_187 : (.methodLink "PageVault$Space" 36 y_F_release : Cond) ∈ lw_tbl := List.mem_append_right _ (List.mem_append_left _ (List.mem_of_getElem? (i := 125) rfl : (.methodLink "PageVault$Space" 36 y_F_release : Cond) ∈ tables_1_1))
set_option maxRecDepth 100000 in
theorem ti_188 : (.instanceMethod y_F_release : Cond) ∈ lw_tbl := List.mem_append_right _ (List.mem_append_left _ (List.mem_of_getElem? (i := 126) rfl : (.instanceMethod y_F_release : Cond) ∈ tables_1_1))
set_option maxRecDepth 100000 in
theorem ti_189 : (.selects "PageVault$Frames" y_F_release y_F_release : Cond) ∈ lw_tbl := List.mem_append_right _ (List.mem_append_left _ (List.mem_of_getElem? (i := 127) rfl : (.selects "PageVault$Frames" y_F_release y_F_release : Cond) ∈ tables_1_1))
set_option maxRecDepth 100000 in
theorem ti_190 : (.code y_F_word b_F_word 3 (some .int) : Cond) ∈ lw_tbl := List.mem_append_right _ (List.mem_append_left _ (List.mem_of_getElem? (i := 121) rfl : (.code y_F_word b_F_word 3 (some .int) : Cond) ∈ tables_1_1))
set_option maxRecDepth 100000 in
theorem ti_191 : (.methodLink "PageVault$Space" 59 y_F_word : Cond) ∈ lw_tbl := List.mem_append_right _ (List.mem_append_left _ (List.mem_of_getElem? (i := 118) rfl : (.methodLink "PageVault$Space" 59 y_F_word : Cond) ∈ tables_1_1))
set_option maxRecDepth 100000 in
theorem ti_192 : (.instanceMethod y_F_word : Cond) ∈ lw_tbl := List.mem_append_right _ (List.mem_append_left _ (List.mem_of_getElem? (i := 119) rfl : (.instanceMethod y_F_word : Cond) ∈ tables_1_1))
set_option maxRecDepth 100000 in
theorem ti_193 : (.selects "PageVault$Frames" y_F_word y_F_word : Cond) ∈ lw_tbl := List.mem_append_right _ (List.mem_append_left _ (List.mem_of_getElem? (i := 120) rfl : (.selects "PageVault$Frames" y_F_word y_F_word : Cond) ∈ tables_1_1))
set_option maxRecDepth 100000 in
theorem ti_194 : (.code y_V_frameOf b_V_frameOf 1 (some .int) : Cond) ∈ lw_tbl := List.mem_append_right _ (List.mem_append_left _ (List.mem_of_getElem? (i := 124) rfl : (.code y_V_frameOf b_V_frameOf 1 (some .int) : Cond) ∈ tables_1_1))
set_option maxRecDepth 100000 in
theorem ti_195 : (.static y_V_frameOf : Cond) ∈ lw_tbl := List.mem_append_right _ (List.mem_append_left _ (List.mem_of_getElem? (i := 123) rfl : (.static y_V_frameOf : Cond) ∈ tables_1_1))
set_option maxRecDepth 100000 in
theorem ti_196 : (.code y_S_tableOf b_S_tableOf 2 (some .int) : Cond) ∈ lw_tbl := List.mem_append_right _ (List.mem_append_left _ (List.mem_of_getElem? (i := 117) rfl : (.code y_S_tableOf b_S_tableOf 2 (some .int) : Cond) ∈ tables_1_1))
set_option maxRecDepth 100000 in
theorem ti_197 : (.methodLink "PageVault$Space" 32 y_S_tableOf : Cond) ∈ lw_tbl := List.mem_append_right _ (List.mem_append_left _ (List.mem_of_getElem? (i := 114) rfl : (.methodLink "PageVault$Space" 32 y_S_tableOf : Cond) ∈ tables_1_1))
set_option maxRecDepth 100000 in
theorem ti_198 : (.instanceMethod y_S_tableOf : Cond) ∈ lw_tbl := List.mem_append_right _ (List.mem_append_left _ (List.mem_of_getElem? (i := 116) rfl : (.instanceMethod y_S_tableOf : Cond) ∈ tables_1_1))
set_option maxRecDepth 100000 in
theorem ti_199 : (.selects "PageVault$Space" y_S_tableOf y_S_tableOf : Cond) ∈ lw_tbl := List.mem_append_left _ (List.mem_of_getElem? (i := 3) rfl)
set_option maxRecDepth 100000 in
theorem ti_200 : (.code y_F_setWord b_F_setWord 4 none : Cond) ∈ lw_tbl := List.mem_append_right _ (List.mem_append_left _ (List.mem_of_getElem? (i := 136) rfl : (.code y_F_setWord b_F_setWord 4 none : Cond) ∈ tables_1_1))
set_option maxRecDepth 100000 in
theorem ti_201 : (.methodLink "PageVault$Space" 62 y_F_setWord : Cond) ∈ lw_tbl := List.mem_append_right _ (List.mem_append_left _ (List.mem_of_getElem? (i := 133) rfl : (.methodLink "PageVault$Space" 62 y_F_setWord : Cond) ∈ tables_1_1))
set_option maxRecDepth 100000 in
theorem ti_202 : (.instanceMethod y_F_setWord : Cond) ∈ lw_tbl := List.mem_append_right _ (List.mem_append_left _ (List.mem_of_getElem? (i := 134) rfl : (.instanceMethod y_F_setWord : Cond) ∈ tables_1_1))
set_option maxRecDepth 100000 in
theorem ti_203 : (.selects "PageVault$Frames" y_F_setWord y_F_setWord : Cond) ∈ lw_tbl := List.mem_append_right _ (List.mem_append_left _ (List.mem_of_getElem? (i := 135) rfl : (.selects "PageVault$Frames" y_F_setWord y_F_setWord : Cond) ∈ tables_1_1))
set_option maxRecDepth 100000 in
theorem ti_204 : (.code y_S_removePagesFrom b_S_removePagesFrom 7 none : Cond) ∈ lw_tbl := List.mem_append_right _ (List.mem_append_left _ (List.mem_of_getElem? (i := 113) rfl : (.code y_S_removePagesFrom b_S_removePagesFrom 7 none : Cond) ∈ tables_1_1))
set_option maxRecDepth 100000 in
theorem ti_205 : (.methodLink "PageVault$Space" 28 y_S_removePagesFrom : Cond) ∈ lw_tbl := List.mem_append_right _ (List.mem_append_left _ (List.mem_of_getElem? (i := 110) rfl : (.methodLink "PageVault$Space" 28 y_S_removePagesFrom : Cond) ∈ tables_1_1))
set_option maxRecDepth 100000 in
theorem ti_206 : (.instanceMethod y_S_removePagesFrom : Cond) ∈ lw_tbl := List.mem_append_right _ (List.mem_append_left _ (List.mem_of_getElem? (i := 112) rfl : (.instanceMethod y_S_removePagesFrom : Cond) ∈ tables_1_1))
set_option maxRecDepth 100000 in
theorem ti_207 : (.selects "PageVault$Space" y_S_removePagesFrom y_S_removePagesFrom : Cond) ∈ lw_tbl := List.mem_append_left _ (List.mem_of_getElem? (i := 2) rfl)
set_option maxRecDepth 100000 in
theorem ti_208 : (.code y_S_close b_S_close 2 none : Cond) ∈ lw_tbl := List.mem_append_right _ (List.mem_append_left _ (List.mem_of_getElem? (i := 109) rfl : (.code y_S_close b_S_close 2 none : Cond) ∈ tables_1_1))
set_option maxRecDepth 100000 in
theorem ti_209 : (.methodLink "PageVault" 54 y_S_close : Cond) ∈ lw_tbl := List.mem_append_right _ (List.mem_append_left _ (List.mem_of_getElem? (i := 106) rfl : (.methodLink "PageVault" 54 y_S_close : Cond) ∈ tables_1_1))
set_option maxRecDepth 100000 in
theorem ti_210 : (.instanceMethod y_S_close : Cond) ∈ lw_tbl := List.mem_append_right _ (List.mem_append_left _ (List.mem_of_getElem? (i := 107) rfl : (.instanceMethod y_S_close : Cond) ∈ tables_1_1))
set_option maxRecDepth 100000 in
theorem ti_211 : (.selects "PageVault$Space" y_S_close y_S_close : Cond) ∈ lw_tbl := List.mem_append_right _ (List.mem_append_left _ (List.mem_of_getElem? (i := 108) rfl : (.selects "PageVault$Space" y_S_close y_S_close : Cond) ∈ tables_1_1))
set_option maxRecDepth 100000 in
theorem ti_212 : (.code y_S_hasPageIn b_S_hasPageIn 4 (some .boolean) : Cond) ∈ lw_tbl := List.mem_append_right _ (List.mem_append_left _ (List.mem_of_getElem? (i := 148) rfl : (.code y_S_hasPageIn b_S_hasPageIn 4 (some .boolean) : Cond) ∈ tables_1_1))
set_option maxRecDepth 100000 in
theorem ti_213 : (.methodLink "PageVault$Space" 42 y_S_hasPageIn : Cond) ∈ lw_tbl := List.mem_append_right _ (List.mem_append_left _ (List.mem_of_getElem? (i := 145) rfl : (.methodLink "PageVault$Space" 42 y_S_hasPageIn : Cond) ∈ tables_1_1))
set_option maxRecDepth 100000 in
theorem ti_214 : (.instanceMethod y_S_hasPageIn : Cond) ∈ lw_tbl := List.mem_append_right _ (List.mem_append_left _ (List.mem_of_getElem? (i := 147) rfl : (.instanceMethod y_S_hasPageIn : Cond) ∈ tables_1_1))
set_option maxRecDepth 100000 in
theorem ti_215 : (.selects "PageVault$Space" y_S_hasPageIn y_S_hasPageIn : Cond) ∈ lw_tbl := List.mem_append_left _ (List.mem_of_getElem? (i := 5) rfl)
set_option maxRecDepth 100000 in
theorem ti_216 : (.code y_S_framesOfCopy b_S_framesOfCopy 3 (some .int) : Cond) ∈ lw_tbl := List.mem_append_right _ (List.mem_append_left _ (List.mem_of_getElem? (i := 144) rfl : (.code y_S_framesOfCopy b_S_framesOfCopy 3 (some .int) : Cond) ∈ tables_1_1))
set_option maxRecDepth 100000 in
theorem ti_217 : (.methodLink "PageVault" 57 y_S_framesOfCopy : Cond) ∈ lw_tbl := List.mem_append_right _ (List.mem_append_left _ (List.mem_of_getElem? (i := 141) rfl : (.methodLink "PageVault" 57 y_S_framesOfCopy : Cond) ∈ tables_1_1))
set_option maxRecDepth 100000 in
theorem ti_218 : (.instanceMethod y_S_framesOfCopy : Cond) ∈ lw_tbl := List.mem_append_right _ (List.mem_append_left _ (List.mem_of_getElem? (i := 142) rfl : (.instanceMethod y_S_framesOfCopy : Cond) ∈ tables_1_1))
set_option maxRecDepth 100000 in
theorem ti_219 : (.selects "PageVault$Space" y_S_framesOfCopy y_S_framesOfCopy : Cond) ∈ lw_tbl := List.mem_append_right _ (List.mem_append_left _ (List.mem_of_getElem? (i := 143) rfl : (.selects "PageVault$Space" y_S_framesOfCopy y_S_framesOfCopy : Cond) ∈ tables_1_1))
set_option maxRecDepth 100000 in
theorem ti_220 : (.code y_F_hold b_F_hold 2 none : Cond) ∈ lw_tbl := List.mem_append_right _ (List.mem_append_left _ (List.mem_of_getElem? (i := 175) rfl : (.code y_F_hold b_F_hold 2 none : Cond) ∈ tables_1_1))
set_option maxRecDepth 100000 in
theorem ti_221 : (.methodLink "PageVault$Space" 91 y_F_hold : Cond) ∈ lw_tbl := List.mem_append_right _ (List.mem_append_left _ (List.mem_of_getElem? (i := 172) rfl : (.methodLink "PageVault$Space" 91 y_F_hold : Cond) ∈ tables_1_1))
set_option maxRecDepth 100000 in
theorem ti_222 : (.instanceMethod y_F_hold : Cond) ∈ lw_tbl := List.mem_append_right _ (List.mem_append_left _ (List.mem_of_getElem? (i := 173) rfl : (.instanceMethod y_F_hold : Cond) ∈ tables_1_1))
set_option maxRecDepth 100000 in
theorem ti_223 : (.selects "PageVault$Frames" y_F_hold y_F_hold : Cond) ∈ lw_tbl := List.mem_append_right _ (List.mem_append_left _ (List.mem_of_getElem? (i := 174) rfl : (.selects "PageVault$Frames" y_F_hold y_F_hold : Cond) ∈ tables_1_1))
set_option maxRecDepth 100000 in
theorem ti_224 : (.code y_V_entryOf b_V_entryOf 2 (some .int) : Cond) ∈ lw_tbl := List.mem_append_right _ (List.mem_append_left _ (List.mem_of_getElem? (i := 164) rfl : (.code y_V_entryOf b_V_entryOf 2 (some .int) : Cond) ∈ tables_1_1))
set_option maxRecDepth 100000 in
theorem ti_225 : (.static y_V_entryOf : Cond) ∈ lw_tbl := List.mem_append_right _ (List.mem_append_left _ (List.mem_of_getElem? (i := 163) rfl : (.static y_V_entryOf : Cond) ∈ tables_1_1))
set_option maxRecDepth 100000 in
theorem ti_226 : (.code y_S_addTable b_S_addTable 3 (some .int) : Cond) ∈ lw_tbl := List.mem_append_right _ (List.mem_append_left _ (List.mem_of_getElem? (i := 161) rfl : (.code y_S_addTable b_S_addTable 3 (some .int) : Cond) ∈ tables_1_1))
set_option maxRecDepth 100000 in
theorem ti_227 : (.methodLink "PageVault$Space" 69 y_S_addTable : Cond) ∈ lw_tbl := List.mem_append_right _ (List.mem_append_left _ (List.mem_of_getElem? (i := 158) rfl : (.methodLink "PageVault$Space" 69 y_S_addTable : Cond) ∈ tables_1_1))
set_option maxRecDepth 100000 in
theorem ti_228 : (.instanceMethod y_S_addTable : Cond) ∈ lw_tbl := List.mem_append_right _ (List.mem_append_left _ (List.mem_of_getElem? (i := 160) rfl : (.instanceMethod y_S_addTable : Cond) ∈ tables_1_1))
set_option maxRecDepth 100000 in
theorem ti_229 : (.selects "PageVault$Space" y_S_addTable y_S_addTable : Cond) ∈ lw_tbl := List.mem_append_left _ (List.mem_of_getElem? (i := 7) rfl)
set_option maxRecDepth 100000 in
theorem ti_230 : (.methodLink "PageVault$Frames" 34 arraycopyName : Cond) ∈ lw_tbl := List.mem_append_right _ (List.mem_append_left _ (List.mem_of_getElem? (i := 169) rfl : (.methodLink "PageVault$Frames" 34 arraycopyName : Cond) ∈ tables_1_1))
set_option maxRecDepth 100000 in
theorem ti_231 : (.native arraycopyName : Cond) ∈ lw_tbl := List.mem_append_right _ (List.mem_append_left _ (List.mem_of_getElem? (i := 171) rfl : (.native arraycopyName : Cond) ∈ tables_1_1))
set_option maxRecDepth 100000 in
theorem ti_232 : (.static arraycopyName : Cond) ∈ lw_tbl := List.mem_append_right _ (List.mem_append_left _ (List.mem_of_getElem? (i := 170) rfl : (.static arraycopyName : Cond) ∈ tables_1_1))
set_option maxRecDepth 100000 in
theorem ti_233 : (.initialized "java/lang/System" : Cond) ∈ lw_tbl := List.mem_append_right _ (List.mem_append_left _ (List.mem_of_getElem? (i := 7) rfl : (.initialized "java/lang/System" : Cond) ∈ tables_1_1))
set_option maxRecDepth 100000 in
theorem ti_234 : (.code y_F_copyWords b_F_copyWords 3 none : Cond) ∈ lw_tbl := List.mem_append_right _ (List.mem_append_left _ (List.mem_of_getElem? (i := 168) rfl : (.code y_F_copyWords b_F_copyWords 3 none : Cond) ∈ tables_1_1))
set_option maxRecDepth 100000 in
theorem ti_235 : (.methodLink "PageVault$Space" 81 y_F_copyWords : Cond) ∈ lw_tbl := List.mem_append_right _ (List.mem_append_left _ (List.mem_of_getElem? (i := 165) rfl : (.methodLink "PageVault$Space" 81 y_F_copyWords : Cond) ∈ tables_1_1))
set_option maxRecDepth 100000 in
theorem ti_236 : (.instanceMethod y_F_copyWords : Cond) ∈ lw_tbl := List.mem_append_right _ (List.mem_append_left _ (List.mem_of_getElem? (i := 166) rfl : (.instanceMethod y_F_copyWords : Cond) ∈ tables_1_1))
set_option maxRecDepth 100000 in
theorem ti_237 : (.selects "PageVault$Frames" y_F_copyWords y_F_copyWords : Cond) ∈ lw_tbl := List.mem_append_right _ (List.mem_append_left _ (List.mem_of_getElem? (i := 167) rfl : (.selects "PageVault$Frames" y_F_copyWords y_F_copyWords : Cond) ∈ tables_1_1))
set_option maxRecDepth 100000 in
theorem ti_238 : (.code y_S_shareRegion b_S_shareRegion 5 none : Cond) ∈ lw_tbl := List.mem_append_right _ (List.mem_append_left _ (List.mem_of_getElem? (i := 157) rfl : (.code y_S_shareRegion b_S_shareRegion 5 none : Cond) ∈ tables_1_1))
set_option maxRecDepth 100000 in
theorem ti_239 : (.methodLink "PageVault$Space" 46 y_S_shareRegion : Cond) ∈ lw_tbl := List.mem_append_right _ (List.mem_append_left _ (List.mem_of_getElem? (i := 154) rfl : (.methodLink "PageVault$Space" 46 y_S_shareRegion : Cond) ∈ tables_1_1))
set_option maxRecDepth 100000 in
theorem ti_240 : (.instanceMethod y_S_shareRegion : Cond) ∈ lw_tbl := List.mem_append_right _ (List.mem_append_left _ (List.mem_of_getElem? (i := 156) rfl : (.instanceMethod y_S_shareRegion : Cond) ∈ tables_1_1))
set_option maxRecDepth 100000 in
theorem ti_241 : (.selects "PageVault$Space" y_S_shareRegion y_S_shareRegion : Cond) ∈ lw_tbl := List.mem_append_left _ (List.mem_of_getElem? (i := 6) rfl)
set_option maxRecDepth 100000 in
theorem ti_242 : (.methodLink "PageVault$Space" 39 y_S_open : Cond) ∈ lw_tbl := List.mem_append_right _ (List.mem_append_left _ (List.mem_of_getElem? (i := 153) rfl : (.methodLink "PageVault$Space" 39 y_S_open : Cond) ∈ tables_1_1))
set_option maxRecDepth 100000 in
theorem ti_243 : (.code y_S_openAsCopy b_S_openAsCopy 3 none : Cond) ∈ lw_tbl := List.mem_append_right _ (List.mem_append_left _ (List.mem_of_getElem? (i := 152) rfl : (.code y_S_openAsCopy b_S_openAsCopy 3 none : Cond) ∈ tables_1_1))
set_option maxRecDepth 100000 in
theorem ti_244 : (.methodLink "PageVault" 60 y_S_openAsCopy : Cond) ∈ lw_tbl := List.mem_append_right _ (List.mem_append_left _ (List.mem_of_getElem? (i := 149) rfl : (.methodLink "PageVault" 60 y_S_openAsCopy : Cond) ∈ tables_1_1))
set_option maxRecDepth 100000 in
theorem ti_245 : (.instanceMethod y_S_openAsCopy : Cond) ∈ lw_tbl := List.mem_append_right _ (List.mem_append_left _ (List.mem_of_getElem? (i := 150) rfl : (.instanceMethod y_S_openAsCopy : Cond) ∈ tables_1_1))
set_option maxRecDepth 100000 in
theorem ti_246 : (.selects "PageVault$Space" y_S_openAsCopy y_S_openAsCopy : Cond) ∈ lw_tbl := List.mem_append_right _ (List.mem_append_left _ (List.mem_of_getElem? (i := 151) rfl : (.selects "PageVault$Space" y_S_openAsCopy y_S_openAsCopy : Cond) ∈ tables_1_1))
set_option maxRecDepth 100000 in
theorem ti_247 : (.constant "PageVault" 158 1073741824 : Cond) ∈ lw_tbl := List.mem_append_right _ (List.mem_append_left _ (List.mem_of_getElem? (i := 186) rfl : (.constant "PageVault" 158 1073741824 : Cond) ∈ tables_1_1))
set_option maxRecDepth 100000 in
theorem ti_248 : (.code y_V_isUsers b_V_isUsers 1 (some .boolean) : Cond) ∈ lw_tbl := List.mem_append_right _ (List.mem_append_left _ (List.mem_of_getElem? (i := 185) rfl : (.code y_V_isUsers b_V_isUsers 1 (some .boolean) : Cond) ∈ tables_1_1))
set_option maxRecDepth 100000 in
theorem ti_249 : (.methodLink "PageVault" 135 y_V_isUsers : Cond) ∈ lw_tbl := List.mem_append_right _ (List.mem_append_left _ (List.mem_of_getElem? (i := 183) rfl : (.methodLink "PageVault" 135 y_V_isUsers : Cond) ∈ tables_1_1))
set_option maxRecDepth 100000 in
theorem ti_250 : (.static y_V_isUsers : Cond) ∈ lw_tbl := List.mem_append_right _ (List.mem_append_left _ (List.mem_of_getElem? (i := 184) rfl : (.static y_V_isUsers : Cond) ∈ tables_1_1))
set_option maxRecDepth 100000 in
theorem ti_251 : (.code y_V_beginsPage b_V_beginsPage 1 (some .boolean) : Cond) ∈ lw_tbl := List.mem_append_right _ (List.mem_append_left _ (List.mem_of_getElem? (i := 182) rfl : (.code y_V_beginsPage b_V_beginsPage 1 (some .boolean) : Cond) ∈ tables_1_1))
set_option maxRecDepth 100000 in
theorem ti_252 : (.methodLink "PageVault" 64 y_V_beginsPage : Cond) ∈ lw_tbl := List.mem_append_right _ (List.mem_append_left _ (List.mem_of_getElem? (i := 180) rfl : (.methodLink "PageVault" 64 y_V_beginsPage : Cond) ∈ tables_1_1))
set_option maxRecDepth 100000 in
theorem ti_253 : (.static y_V_beginsPage : Cond) ∈ lw_tbl := List.mem_append_right _ (List.mem_append_left _ (List.mem_of_getElem? (i := 181) rfl : (.static y_V_beginsPage : Cond) ∈ tables_1_1))
set_option maxRecDepth 100000 in
theorem ti_254 : (.code y_V_areFlags b_V_areFlags 1 (some .boolean) : Cond) ∈ lw_tbl := List.mem_append_right _ (List.mem_append_left _ (List.mem_of_getElem? (i := 189) rfl : (.code y_V_areFlags b_V_areFlags 1 (some .boolean) : Cond) ∈ tables_1_1))
set_option maxRecDepth 100000 in
theorem ti_255 : (.methodLink "PageVault" 68 y_V_areFlags : Cond) ∈ lw_tbl := List.mem_append_right _ (List.mem_append_left _ (List.mem_of_getElem? (i := 187) rfl : (.methodLink "PageVault" 68 y_V_areFlags : Cond) ∈ tables_1_1))
set_option maxRecDepth 100000 in
theorem ti_256 : (.static y_V_areFlags : Cond) ∈ lw_tbl := List.mem_append_right _ (List.mem_append_left _ (List.mem_of_getElem? (i := 188) rfl : (.static y_V_areFlags : Cond) ∈ tables_1_1))
set_option maxRecDepth 100000 in
theorem ti_257 : (.code y_S_slotOf b_S_slotOf 1 (some .int) : Cond) ∈ lw_tbl := List.mem_append_right _ (List.mem_append_left _ (List.mem_of_getElem? (i := 196) rfl : (.code y_S_slotOf b_S_slotOf 1 (some .int) : Cond) ∈ tables_1_1))
set_option maxRecDepth 100000 in
theorem ti_258 : (.methodLink "PageVault$Space" 56 y_S_slotOf : Cond) ∈ lw_tbl := List.mem_append_right _ (List.mem_append_left _ (List.mem_of_getElem? (i := 194) rfl : (.methodLink "PageVault$Space" 56 y_S_slotOf : Cond) ∈ tables_1_1))
set_option maxRecDepth 100000 in
theorem ti_259 : (.static y_S_slotOf : Cond) ∈ lw_tbl := List.mem_append_right _ (List.mem_append_left _ (List.mem_of_getElem? (i := 195) rfl : (.static y_S_slotOf : Cond) ∈ tables_1_1))
set_option maxRecDepth 100000 in
theorem ti_260 : (.code y_S_entryAt b_S_entryAt 2 (some .int) : Cond) ∈ lw_tbl := List.mem_append_right _ (List.mem_append_left _ (List.mem_of_getElem? (i := 193) rfl : (.code y_S_entryAt b_S_entryAt 2 (some .int) : Cond) ∈ tables_1_1))
set_option maxRecDepth 100000 in
theorem ti_261 : (.methodLink "PageVault" 71 y_S_entryAt : Cond) ∈ lw_tbl := List.mem_append_right _ (List.mem_append_left _ (List.mem_of_getElem? (i := 190) rfl : (.methodLink "PageVault" 71 y_S_entryAt : Cond) ∈ tables_1_1))
set_option maxRecDepth 100000 in
theorem ti_262 : (.instanceMethod y_S_entryAt : Cond) ∈ lw_tbl := List.mem_append_right _ (List.mem_append_left _ (List.mem_of_getElem? (i := 191) rfl : (.instanceMethod y_S_entryAt : Cond) ∈ tables_1_1))
set_option maxRecDepth 100000 in
theorem ti_263 : (.selects "PageVault$Space" y_S_entryAt y_S_entryAt : Cond) ∈ lw_tbl := List.mem_append_right _ (List.mem_append_left _ (List.mem_of_getElem? (i := 192) rfl : (.selects "PageVault$Space" y_S_entryAt y_S_entryAt : Cond) ∈ tables_1_1))
set_option maxRecDepth 100000 in
theorem ti_264 : (.methodLink "PageVault$Space" 66 y_F_spare : Cond) ∈ lw_tbl := List.mem_append_right _ (List.mem_append_left _ (List.mem_of_getElem? (i := 201) rfl : (.methodLink "PageVault$Space" 66 y_F_spare : Cond) ∈ tables_1_1))
set_option maxRecDepth 100000 in
theorem ti_265 : (.code y_S_addPage b_S_addPage 6 (some .int) : Cond) ∈ lw_tbl := List.mem_append_right _ (List.mem_append_left _ (List.mem_of_getElem? (i := 200) rfl : (.code y_S_addPage b_S_addPage 6 (some .int) : Cond) ∈ tables_1_1))
set_option maxRecDepth 100000 in
theorem ti_266 : (.methodLink "PageVault" 75 y_S_addPage : Cond) ∈ lw_tbl := List.mem_append_right _ (List.mem_append_left _ (List.mem_of_getElem? (i := 197) rfl : (.methodLink "PageVault" 75 y_S_addPage : Cond) ∈ tables_1_1))
set_option maxRecDepth 100000 in
theorem ti_267 : (.instanceMethod y_S_addPage : Cond) ∈ lw_tbl := List.mem_append_right _ (List.mem_append_left _ (List.mem_of_getElem? (i := 198) rfl : (.instanceMethod y_S_addPage : Cond) ∈ tables_1_1))
set_option maxRecDepth 100000 in
theorem ti_268 : (.selects "PageVault$Space" y_S_addPage y_S_addPage : Cond) ∈ lw_tbl := List.mem_append_right _ (List.mem_append_left _ (List.mem_of_getElem? (i := 199) rfl : (.selects "PageVault$Space" y_S_addPage y_S_addPage : Cond) ∈ tables_1_1))
set_option maxRecDepth 100000 in
theorem ti_269 : (.methodLink "PageVault$Space" 50 Lib.Math.max.name : Cond) ∈ lw_tbl := List.mem_append_right _ (List.mem_append_left _ (List.mem_of_getElem? (i := 206) rfl : (.methodLink "PageVault$Space" 50 Lib.Math.max.name : Cond) ∈ tables_1_1))
set_option maxRecDepth 100000 in
theorem ti_270 : (.code y_S_reach b_S_reach 2 none : Cond) ∈ lw_tbl := List.mem_append_right _ (List.mem_append_left _ (List.mem_of_getElem? (i := 205) rfl : (.code y_S_reach b_S_reach 2 none : Cond) ∈ tables_1_1))
set_option maxRecDepth 100000 in
theorem ti_271 : (.methodLink "PageVault" 78 y_S_reach : Cond) ∈ lw_tbl := List.mem_append_right _ (List.mem_append_left _ (List.mem_of_getElem? (i := 202) rfl : (.methodLink "PageVault" 78 y_S_reach : Cond) ∈ tables_1_1))
set_option maxRecDepth 100000 in
theorem ti_272 : (.instanceMethod y_S_reach : Cond) ∈ lw_tbl := List.mem_append_right _ (List.mem_append_left _ (List.mem_of_getElem? (i := 203) rfl : (.instanceMethod y_S_reach : Cond) ∈ tables_1_1))
set_option maxRecDepth 100000 in
theorem ti_273 : (.selects "PageVault$Space" y_S_reach y_S_reach : Cond) ∈ lw_tbl := List.mem_append_right _ (List.mem_append_left _ (List.mem_of_getElem? (i := 204) rfl : (.selects "PageVault$Space" y_S_reach y_S_reach : Cond) ∈ tables_1_1))
set_option maxRecDepth 100000 in
theorem ti_274 : (.methodLink "PageVault" 81 y_V_frameOf : Cond) ∈ lw_tbl := List.mem_append_right _ (List.mem_append_left _ (List.mem_of_getElem? (i := 211) rfl : (.methodLink "PageVault" 81 y_V_frameOf : Cond) ∈ tables_1_1))
set_option maxRecDepth 100000 in
theorem ti_275 : (.methodLink "PageVault" 84 y_V_entryOf : Cond) ∈ lw_tbl := List.mem_append_right _ (List.mem_append_left _ (List.mem_of_getElem? (i := 212) rfl : (.methodLink "PageVault" 84 y_V_entryOf : Cond) ∈ tables_1_1))
set_option maxRecDepth 100000 in
theorem ti_276 : (.code y_S_setEntry b_S_setEntry 3 none : Cond) ∈ lw_tbl := List.mem_append_right _ (List.mem_append_left _ (List.mem_of_getElem? (i := 216) rfl : (.code y_S_setEntry b_S_setEntry 3 none : Cond) ∈ tables_1_1))
set_option maxRecDepth 100000 in
theorem ti_277 : (.methodLink "PageVault" 87 y_S_setEntry : Cond) ∈ lw_tbl := List.mem_append_right _ (List.mem_append_left _ (List.mem_of_getElem? (i := 213) rfl : (.methodLink "PageVault" 87 y_S_setEntry : Cond) ∈ tables_1_1))
set_option maxRecDepth 100000 in
theorem ti_278 : (.instanceMethod y_S_setEntry : Cond) ∈ lw_tbl := List.mem_append_right _ (List.mem_append_left _ (List.mem_of_getElem? (i := 214) rfl : (.instanceMethod y_S_setEntry : Cond) ∈ tables_1_1))
set_option maxRecDepth 100000 in
theorem ti_279 : (.selects "PageVault$Space" y_S_setEntry y_S_setEntry : Cond) ∈ lw_tbl := List.mem_append_right _ (List.mem_append_left _ (List.mem_of_getElem? (i := 215) rfl : (.selects "PageVault$Space" y_S_setEntry y_S_setEntry : Cond) ∈ tables_1_1))
set_option maxRecDepth 100000 in
theorem ti_280 : (.code y_S_length b_S_length 1 (some .int) : Cond) ∈ lw_tbl := List.mem_append_right _ (List.mem_append_left _ (List.mem_of_getElem? (i := 224) rfl : (.code y_S_length b_S_length 1 (some .int) : Cond) ∈ tables_1_1))
set_option maxRecDepth 100000 in
theorem ti_281 : (.methodLink "PageVault" 91 y_S_length : Cond) ∈ lw_tbl := List.mem_append_right _ (List.mem_append_left _ (List.mem_of_getElem? (i := 221) rfl : (.methodLink "PageVault" 91 y_S_length : Cond) ∈ tables_1_1))
set_option maxRecDepth 100000 in
theorem ti_282 : (.instanceMethod y_S_length : Cond) ∈ lw_tbl := List.mem_append_right _ (List.mem_append_left _ (List.mem_of_getElem? (i := 222) rfl : (.instanceMethod y_S_length : Cond) ∈ tables_1_1))
set_option maxRecDepth 100000 in
theorem ti_283 : (.selects "PageVault$Space" y_S_length y_S_length : Cond) ∈ lw_tbl := List.mem_append_right _ (List.mem_append_left _ (List.mem_of_getElem? (i := 223) rfl : (.selects "PageVault$Space" y_S_length y_S_length : Cond) ∈ tables_1_1))
set_option maxRecDepth 100000 in
theorem ti_284 : (.constantLong "PageVault" 94 1073741824 : Cond) ∈ lw_tbl := List.mem_append_right _ (List.mem_append_left _ (List.mem_of_getElem? (i := 225) rfl : (.constantLong "PageVault" 94 1073741824 : Cond) ∈ tables_1_1))
set_option maxRecDepth 100000 in
theorem ti_285 : (.code y_S_resize b_S_resize 2 none : Cond) ∈ lw_tbl := List.mem_append_right _ (List.mem_append_left _ (List.mem_of_getElem? (i := 229) rfl : (.code y_S_resize b_S_resize 2 none : Cond) ∈ tables_1_1))
set_option maxRecDepth 100000 in
theorem ti_286 : (.methodLink "PageVault" 96 y_S_resize : Cond) ∈ lw_tbl := List.mem_append_right _ (List.mem_append_left _ (List.mem_of_getElem? (i := 226) rfl : (.methodLink "PageVault" 96 y_S_resize : Cond) ∈ tables_1_1))
set_option maxRecDepth 100000 in
theorem ti_287 : (.instanceMethod y_S_resize : Cond) ∈ lw_tbl := List.mem_append_right _ (List.mem_append_left _ (List.mem_of_getElem? (i := 227) rfl : (.instanceMethod y_S_resize : Cond) ∈ tables_1_1))
set_option maxRecDepth 100000 in
theorem ti_288 : (.selects "PageVault$Space" y_S_resize y_S_resize : Cond) ∈ lw_tbl := List.mem_append_right _ (List.mem_append_left _ (List.mem_of_getElem? (i := 228) rfl : (.selects "PageVault$Space" y_S_resize y_S_resize : Cond) ∈ tables_1_1))
set_option maxRecDepth 100000 in
theorem ti_289 : (.fieldLink "PageVault" 103 "PageVault" "latestTrap" "I" : Cond) ∈ lw_tbl := List.mem_append_right _ (List.mem_append_left _ (List.mem_of_getElem? (i := 61) rfl : (.fieldLink "PageVault" 103 "PageVault" "latestTrap" "I" : Cond) ∈ tables_1_1))
set_option maxRecDepth 100000 in
theorem ti_290 : (.code y_V_isStraight b_V_isStraight 2 (some .boolean) : Cond) ∈ lw_tbl := List.mem_append_right _ (List.mem_append_right _ (List.mem_append_left _ (List.mem_of_getElem? (i := 4) rfl : (.code y_V_isStraight b_V_isStraight 2 (some .boolean) : Cond) ∈ tables_1_2)))
set_option maxRecDepth 100000 in
theorem ti_291 : (.methodLink "PageVault" 107 y_V_isStraight : Cond) ∈ lw_tbl := List.mem_append_right _ (List.mem_append_right _ (List.mem_append_left _ (List.mem_of_getElem? (i := 2) rfl : (.methodLink "PageVault" 107 y_V_isStraight : Cond) ∈ tables_1_2)))
set_option maxRecDepth 100000 in
theorem ti_292 : (.static y_V_isStraight : Cond) ∈ lw_tbl := List.mem_append_right _ (List.mem_append_right _ (List.mem_append_left _ (List.mem_of_getElem? (i := 3) rfl : (.static y_V_isStraight : Cond) ∈ tables_1_2)))
set_option maxRecDepth 100000 in
theorem ti_293 : (.code y_V_trapped b_V_trapped 2 (some .int) : Cond) ∈ lw_tbl := List.mem_append_right _ (List.mem_append_right _ (List.mem_append_left _ (List.mem_of_getElem? (i := 8) rfl : (.code y_V_trapped b_V_trapped 2 (some .int) : Cond) ∈ tables_1_2)))
set_option maxRecDepth 100000 in
theorem ti_294 : (.methodLink "PageVault" 111 y_V_trapped : Cond) ∈ lw_tbl := List.mem_append_right _ (List.mem_append_right _ (List.mem_append_left _ (List.mem_of_getElem? (i := 5) rfl : (.methodLink "PageVault" 111 y_V_trapped : Cond) ∈ tables_1_2)))
set_option maxRecDepth 100000 in
theorem ti_295 : (.instanceMethod y_V_trapped : Cond) ∈ lw_tbl := List.mem_append_right _ (List.mem_append_right _ (List.mem_append_left _ (List.mem_of_getElem? (i := 7) rfl : (.instanceMethod y_V_trapped : Cond) ∈ tables_1_2)))
set_option maxRecDepth 100000 in
theorem ti_296 : (.selects "PageVault" y_V_trapped y_V_trapped : Cond) ∈ lw_tbl := List.mem_append_left _ (List.mem_of_getElem? (i := 9) rfl)
set_option maxRecDepth 100000 in
theorem ti_297 : (.code y_V_touch b_V_touch 6 (some .int) : Cond) ∈ lw_tbl := List.mem_append_right _ (List.mem_append_right _ (List.mem_append_left _ (List.mem_of_getElem? (i := 12) rfl : (.code y_V_touch b_V_touch 6 (some .int) : Cond) ∈ tables_1_2)))
set_option maxRecDepth 100000 in
theorem ti_298 : (.methodLink "PageVault" 138 y_V_touch : Cond) ∈ lw_tbl := List.mem_append_right _ (List.mem_append_right _ (List.mem_append_left _ (List.mem_of_getElem? (i := 9) rfl : (.methodLink "PageVault" 138 y_V_touch : Cond) ∈ tables_1_2)))
set_option maxRecDepth 100000 in
theorem ti_299 : (.instanceMethod y_V_touch : Cond) ∈ lw_tbl := List.mem_append_right _ (List.mem_append_right _ (List.mem_append_left _ (List.mem_of_getElem? (i := 11) rfl : (.instanceMethod y_V_touch : Cond) ∈ tables_1_2)))
set_option maxRecDepth 100000 in
theorem ti_300 : (.selects "PageVault" y_V_touch y_V_touch : Cond) ∈ lw_tbl := List.mem_append_left _ (List.mem_of_getElem? (i := 10) rfl)
set_option maxRecDepth 100000 in
theorem ti_301 : (.code y_F_wordOf b_F_wordOf 1 (some .int) : Cond) ∈ lw_tbl := List.mem_append_right _ (List.mem_append_right _ (List.mem_append_left _ (List.mem_of_getElem? (i := 40) rfl : (.code y_F_wordOf b_F_wordOf 1 (some .int) : Cond) ∈ tables_1_2)))
set_option maxRecDepth 100000 in
theorem ti_302 : (.methodLink "PageVault$Frames" 40 y_F_wordOf : Cond) ∈ lw_tbl := List.mem_append_right _ (List.mem_append_right _ (List.mem_append_left _ (List.mem_of_getElem? (i := 38) rfl : (.methodLink "PageVault$Frames" 40 y_F_wordOf : Cond) ∈ tables_1_2)))
set_option maxRecDepth 100000 in
theorem ti_303 : (.static y_F_wordOf : Cond) ∈ lw_tbl := List.mem_append_right _ (List.mem_append_right _ (List.mem_append_left _ (List.mem_of_getElem? (i := 39) rfl : (.static y_F_wordOf : Cond) ∈ tables_1_2)))
set_option maxRecDepth 100000 in
theorem ti_304 : (.methodLink "PageVault$Frames" 44 y_F_word : Cond) ∈ lw_tbl := List.mem_append_right _ (List.mem_append_right _ (List.mem_append_left _ (List.mem_of_getElem? (i := 41) rfl : (.methodLink "PageVault$Frames" 44 y_F_word : Cond) ∈ tables_1_2)))
set_option maxRecDepth 100000 in
theorem ti_305 : (.code y_F_bitOf b_F_bitOf 1 (some .int) : Cond) ∈ lw_tbl := List.mem_append_right _ (List.mem_append_right _ (List.mem_append_left _ (List.mem_of_getElem? (i := 44) rfl : (.code y_F_bitOf b_F_bitOf 1 (some .int) : Cond) ∈ tables_1_2)))
set_option maxRecDepth 100000 in
theorem ti_306 : (.methodLink "PageVault$Frames" 48 y_F_bitOf : Cond) ∈ lw_tbl := List.mem_append_right _ (List.mem_append_right _ (List.mem_append_left _ (List.mem_of_getElem? (i := 42) rfl : (.methodLink "PageVault$Frames" 48 y_F_bitOf : Cond) ∈ tables_1_2)))
set_option maxRecDepth 100000 in
theorem ti_307 : (.static y_F_bitOf : Cond) ∈ lw_tbl := List.mem_append_right _ (List.mem_append_right _ (List.mem_append_left _ (List.mem_of_getElem? (i := 43) rfl : (.static y_F_bitOf : Cond) ∈ tables_1_2)))
set_option maxRecDepth 100000 in
theorem ti_308 : (.code y_F_mask b_F_mask 1 (some .int) : Cond) ∈ lw_tbl := List.mem_append_right _ (List.mem_append_right _ (List.mem_append_left _ (List.mem_of_getElem? (i := 47) rfl : (.code y_F_mask b_F_mask 1 (some .int) : Cond) ∈ tables_1_2)))
set_option maxRecDepth 100000 in
theorem ti_309 : (.methodLink "PageVault$Frames" 51 y_F_mask : Cond) ∈ lw_tbl := List.mem_append_right _ (List.mem_append_right _ (List.mem_append_left _ (List.mem_of_getElem? (i := 45) rfl : (.methodLink "PageVault$Frames" 51 y_F_mask : Cond) ∈ tables_1_2)))
set_option maxRecDepth 100000 in
theorem ti_310 : (.static y_F_mask : Cond) ∈ lw_tbl := List.mem_append_right _ (List.mem_append_right _ (List.mem_append_left _ (List.mem_of_getElem? (i := 46) rfl : (.static y_F_mask : Cond) ∈ tables_1_2)))
set_option maxRecDepth 100000 in
theorem ti_311 : (.code y_F_read b_F_read 4 (some .int) : Cond) ∈ lw_tbl := List.mem_append_right _ (List.mem_append_right _ (List.mem_append_left _ (List.mem_of_getElem? (i := 37) rfl : (.code y_F_read b_F_read 4 (some .int) : Cond) ∈ tables_1_2)))
set_option maxRecDepth 100000 in
theorem ti_312 : (.methodLink "PageVault" 142 y_F_read : Cond) ∈ lw_tbl := List.mem_append_right _ (List.mem_append_right _ (List.mem_append_left _ (List.mem_of_getElem? (i := 34) rfl : (.methodLink "PageVault" 142 y_F_read : Cond) ∈ tables_1_2)))
set_option maxRecDepth 100000 in
theorem ti_313 : (.instanceMethod y_F_read : Cond) ∈ lw_tbl := List.mem_append_right _ (List.mem_append_right _ (List.mem_append_left _ (List.mem_of_getElem? (i := 35) rfl : (.instanceMethod y_F_read : Cond) ∈ tables_1_2)))
set_option maxRecDepth 100000 in
theorem ti_314 : (.selects "PageVault$Frames" y_F_read y_F_read : Cond) ∈ lw_tbl := List.mem_append_right _ (List.mem_append_right _ (List.mem_append_left _ (List.mem_of_getElem? (i := 36) rfl : (.selects "PageVault$Frames" y_F_read y_F_read : Cond) ∈ tables_1_2)))
set_option maxRecDepth 100000 in
theorem ti_315 : (.code y_F_holders b_F_holders 2 (some .int) : Cond) ∈ lw_tbl := List.mem_append_right _ (List.mem_append_right _ (List.mem_append_left _ (List.mem_of_getElem? (i := 24) rfl : (.code y_F_holders b_F_holders 2 (some .int) : Cond) ∈ tables_1_2)))
set_option maxRecDepth 100000 in
theorem ti_316 : (.methodLink "PageVault" 128 y_F_holders : Cond) ∈ lw_tbl := List.mem_append_right _ (List.mem_append_right _ (List.mem_append_left _ (List.mem_of_getElem? (i := 21) rfl : (.methodLink "PageVault" 128 y_F_holders : Cond) ∈ tables_1_2)))
set_option maxRecDepth 100000 in
theorem ti_317 : (.instanceMethod y_F_holders : Cond) ∈ lw_tbl := List.mem_append_right _ (List.mem_append_right _ (List.mem_append_left _ (List.mem_of_getElem? (i := 22) rfl : (.instanceMethod y_F_holders : Cond) ∈ tables_1_2)))
set_option maxRecDepth 100000 in
theorem ti_318 : (.selects "PageVault$Frames" y_F_holders y_F_holders : Cond) ∈ lw_tbl := List.mem_append_right _ (List.mem_append_right _ (List.mem_append_left _ (List.mem_of_getElem? (i := 23) rfl : (.selects "PageVault$Frames" y_F_holders y_F_holders : Cond) ∈ tables_1_2)))
set_option maxRecDepth 100000 in
theorem ti_319 : (.methodLink "PageVault$Space" 75 y_S_entryAt : Cond) ∈ lw_tbl := List.mem_append_right _ (List.mem_append_right _ (List.mem_append_left _ (List.mem_of_getElem? (i := 29) rfl : (.methodLink "PageVault$Space" 75 y_S_entryAt : Cond) ∈ tables_1_2)))
set_option maxRecDepth 100000 in
theorem ti_320 : (.code y_V_flagsOf b_V_flagsOf 1 (some .int) : Cond) ∈ lw_tbl := List.mem_append_right _ (List.mem_append_right _ (List.mem_append_left _ (List.mem_of_getElem? (i := 32) rfl : (.code y_V_flagsOf b_V_flagsOf 1 (some .int) : Cond) ∈ tables_1_2)))
set_option maxRecDepth 100000 in
theorem ti_321 : (.static y_V_flagsOf : Cond) ∈ lw_tbl := List.mem_append_right _ (List.mem_append_right _ (List.mem_append_left _ (List.mem_of_getElem? (i := 31) rfl : (.static y_V_flagsOf : Cond) ∈ tables_1_2)))
set_option maxRecDepth 100000 in
theorem ti_322 : (.methodLink "PageVault$Space" 88 y_S_setEntry : Cond) ∈ lw_tbl := List.mem_append_right _ (List.mem_append_right _ (List.mem_append_left _ (List.mem_of_getElem? (i := 33) rfl : (.methodLink "PageVault$Space" 88 y_S_setEntry : Cond) ∈ tables_1_2)))
set_option maxRecDepth 100000 in
theorem ti_323 : (.code y_S_partPage b_S_partPage 4 (some .int) : Cond) ∈ lw_tbl := List.mem_append_right _ (List.mem_append_right _ (List.mem_append_left _ (List.mem_of_getElem? (i := 28) rfl : (.code y_S_partPage b_S_partPage 4 (some .int) : Cond) ∈ tables_1_2)))
set_option maxRecDepth 100000 in
theorem ti_324 : (.methodLink "PageVault" 152 y_S_partPage : Cond) ∈ lw_tbl := List.mem_append_right _ (List.mem_append_right _ (List.mem_append_left _ (List.mem_of_getElem? (i := 25) rfl : (.methodLink "PageVault" 152 y_S_partPage : Cond) ∈ tables_1_2)))
set_option maxRecDepth 100000 in
theorem ti_325 : (.instanceMethod y_S_partPage : Cond) ∈ lw_tbl := List.mem_append_right _ (List.mem_append_right _ (List.mem_append_left _ (List.mem_of_getElem? (i := 26) rfl : (.instanceMethod y_S_partPage : Cond) ∈ tables_1_2)))
set_option maxRecDepth 100000 in
theorem ti_326 : (.selects "PageVault$Space" y_S_partPage y_S_partPage : Cond) ∈ lw_tbl := List.mem_append_right _ (List.mem_append_right _ (List.mem_append_left _ (List.mem_of_getElem? (i := 27) rfl : (.selects "PageVault$Space" y_S_partPage y_S_partPage : Cond) ∈ tables_1_2)))
set_option maxRecDepth 100000 in
theorem ti_327 : (.code y_V_frameOrFull b_V_frameOrFull 2 (some .int) : Cond) ∈ lw_tbl := List.mem_append_right _ (List.mem_append_right _ (List.mem_append_left _ (List.mem_of_getElem? (i := 20) rfl : (.code y_V_frameOrFull b_V_frameOrFull 2 (some .int) : Cond) ∈ tables_1_2)))
set_option maxRecDepth 100000 in
theorem ti_328 : (.methodLink "PageVault" 155 y_V_frameOrFull : Cond) ∈ lw_tbl := List.mem_append_right _ (List.mem_append_right _ (List.mem_append_left _ (List.mem_of_getElem? (i := 17) rfl : (.methodLink "PageVault" 155 y_V_frameOrFull : Cond) ∈ tables_1_2)))
set_option maxRecDepth 100000 in
theorem ti_329 : (.instanceMethod y_V_frameOrFull : Cond) ∈ lw_tbl := List.mem_append_right _ (List.mem_append_right _ (List.mem_append_left _ (List.mem_of_getElem? (i := 19) rfl : (.instanceMethod y_V_frameOrFull : Cond) ∈ tables_1_2)))
set_option maxRecDepth 100000 in
theorem ti_330 : (.selects "PageVault" y_V_frameOrFull y_V_frameOrFull : Cond) ∈ lw_tbl := List.mem_append_left _ (List.mem_of_getElem? (i := 12) rfl)
set_option maxRecDepth 100000 in
theorem ti_331 : (.code y_V_touchAbsent b_V_touchAbsent 4 (some .int) : Cond) ∈ lw_tbl := List.mem_append_right _ (List.mem_append_right _ (List.mem_append_left _ (List.mem_of_getElem? (i := 16) rfl : (.code y_V_touchAbsent b_V_touchAbsent 4 (some .int) : Cond) ∈ tables_1_2)))
set_option maxRecDepth 100000 in
theorem ti_332 : (.methodLink "PageVault" 149 y_V_touchAbsent : Cond) ∈ lw_tbl := List.mem_append_right _ (List.mem_append_right _ (List.mem_append_left _ (List.mem_of_getElem? (i := 13) rfl : (.methodLink "PageVault" 149 y_V_touchAbsent : Cond) ∈ tables_1_2)))
set_option maxRecDepth 100000 in
theorem ti_333 : (.instanceMethod y_V_touchAbsent : Cond) ∈ lw_tbl := List.mem_append_right _ (List.mem_append_right _ (List.mem_append_left _ (List.mem_of_getElem? (i := 15) rfl : (.instanceMethod y_V_touchAbsent : Cond) ∈ tables_1_2)))
set_option maxRecDepth 100000 in
theorem ti_334 : (.selects "PageVault" y_V_touchAbsent y_V_touchAbsent : Cond) ∈ lw_tbl := List.mem_append_left _ (List.mem_of_getElem? (i := 11) rfl)
set_option maxRecDepth 100000 in
theorem ti_335 : (.code y_V_number b_V_number 6 (some .int) : Cond) ∈ lw_tbl := List.mem_append_right _ (List.mem_append_right _ (List.mem_append_left _ (List.mem_of_getElem? (i := 1) rfl : (.code y_V_number b_V_number 6 (some .int) : Cond) ∈ tables_1_2)))
set_option maxRecDepth 100000 in
theorem ti_336 : (.methodLink "PageVault" 99 y_V_number : Cond) ∈ lw_tbl := List.mem_append_right _ (List.mem_append_left _ (List.mem_of_getElem? (i := 238) rfl : (.methodLink "PageVault" 99 y_V_number : Cond) ∈ tables_1_1))
set_option maxRecDepth 100000 in
theorem ti_337 : (.instanceMethod y_V_number : Cond) ∈ lw_tbl := List.mem_append_right _ (List.mem_append_right _ (List.mem_append_left _ (List.mem_of_getElem? (i := 0) rfl : (.instanceMethod y_V_number : Cond) ∈ tables_1_2)))
set_option maxRecDepth 100000 in
theorem ti_338 : (.selects "PageVault" y_V_number y_V_number : Cond) ∈ lw_tbl := List.mem_append_left _ (List.mem_of_getElem? (i := 8) rfl)
set_option maxRecDepth 100000 in
theorem ti_339 : (.methodLink "PageVault$Frames" 54 y_F_setWord : Cond) ∈ lw_tbl := List.mem_append_right _ (List.mem_append_right _ (List.mem_append_left _ (List.mem_of_getElem? (i := 64) rfl : (.methodLink "PageVault$Frames" 54 y_F_setWord : Cond) ∈ tables_1_2)))
set_option maxRecDepth 100000 in
theorem ti_340 : (.code y_F_write b_F_write 6 none : Cond) ∈ lw_tbl := List.mem_append_right _ (List.mem_append_right _ (List.mem_append_left _ (List.mem_of_getElem? (i := 63) rfl : (.code y_F_write b_F_write 6 none : Cond) ∈ tables_1_2)))
set_option maxRecDepth 100000 in
theorem ti_341 : (.methodLink "PageVault" 146 y_F_write : Cond) ∈ lw_tbl := List.mem_append_right _ (List.mem_append_right _ (List.mem_append_left _ (List.mem_of_getElem? (i := 60) rfl : (.methodLink "PageVault" 146 y_F_write : Cond) ∈ tables_1_2)))
set_option maxRecDepth 100000 in
theorem ti_342 : (.instanceMethod y_F_write : Cond) ∈ lw_tbl := List.mem_append_right _ (List.mem_append_right _ (List.mem_append_left _ (List.mem_of_getElem? (i := 61) rfl : (.instanceMethod y_F_write : Cond) ∈ tables_1_2)))
set_option maxRecDepth 100000 in
theorem ti_343 : (.selects "PageVault$Frames" y_F_write y_F_write : Cond) ∈ lw_tbl := List.mem_append_right _ (List.mem_append_right _ (List.mem_append_left _ (List.mem_of_getElem? (i := 62) rfl : (.selects "PageVault$Frames" y_F_write y_F_write : Cond) ∈ tables_1_2)))
set_option maxRecDepth 100000 in
theorem ti_344 : (.code y_V_write b_V_write 6 (some .boolean) : Cond) ∈ lw_tbl := List.mem_append_right _ (List.mem_append_right _ (List.mem_append_left _ (List.mem_of_getElem? (i := 59) rfl : (.code y_V_write b_V_write 6 (some .boolean) : Cond) ∈ tables_1_2)))
set_option maxRecDepth 100000 in
theorem ti_345 : (.methodLink "PageVault" 114 y_V_write : Cond) ∈ lw_tbl := List.mem_append_right _ (List.mem_append_right _ (List.mem_append_left _ (List.mem_of_getElem? (i := 56) rfl : (.methodLink "PageVault" 114 y_V_write : Cond) ∈ tables_1_2)))
set_option maxRecDepth 100000 in
theorem ti_346 : (.instanceMethod y_V_write : Cond) ∈ lw_tbl := List.mem_append_right _ (List.mem_append_right _ (List.mem_append_left _ (List.mem_of_getElem? (i := 58) rfl : (.instanceMethod y_V_write : Cond) ∈ tables_1_2)))
set_option maxRecDepth 100000 in
theorem ti_347 : (.selects "PageVault" y_V_write y_V_write : Cond) ∈ lw_tbl := List.mem_append_left _ (List.mem_of_getElem? (i := 13) rfl)
set_option maxRecDepth 100000 in
theorem ti_348 : (.code y_V_readByte b_V_readByte 4 (some .int) : Cond) ∈ lw_tbl := List.mem_append_right _ (List.mem_append_right _ (List.mem_append_left _ (List.mem_of_getElem? (i := 80) rfl : (.code y_V_readByte b_V_readByte 4 (some .int) : Cond) ∈ tables_1_2)))
set_option maxRecDepth 100000 in
theorem ti_349 : (.methodLink "PageVault" 118 y_V_readByte : Cond) ∈ lw_tbl := List.mem_append_right _ (List.mem_append_right _ (List.mem_append_left _ (List.mem_of_getElem? (i := 77) rfl : (.methodLink "PageVault" 118 y_V_readByte : Cond) ∈ tables_1_2)))
set_option maxRecDepth 100000 in
theorem ti_350 : (.instanceMethod y_V_readByte : Cond) ∈ lw_tbl := List.mem_append_right _ (List.mem_append_right _ (List.mem_append_left _ (List.mem_of_getElem? (i := 79) rfl : (.instanceMethod y_V_readByte : Cond) ∈ tables_1_2)))
set_option maxRecDepth 100000 in
theorem ti_351 : (.selects "PageVault" y_V_readByte y_V_readByte : Cond) ∈ lw_tbl := List.mem_append_left _ (List.mem_of_getElem? (i := 14) rfl)
set_option maxRecDepth 100000 in
theorem ti_352 : (.code y_V_entryIn b_V_entryIn 4 (some .int) : Cond) ∈ lw_tbl := List.mem_append_right _ (List.mem_append_right _ (List.mem_append_left _ (List.mem_of_getElem? (i := 104) rfl : (.code y_V_entryIn b_V_entryIn 4 (some .int) : Cond) ∈ tables_1_2)))
set_option maxRecDepth 100000 in
theorem ti_353 : (.methodLink "PageVault" 122 y_V_entryIn : Cond) ∈ lw_tbl := List.mem_append_right _ (List.mem_append_right _ (List.mem_append_left _ (List.mem_of_getElem? (i := 101) rfl : (.methodLink "PageVault" 122 y_V_entryIn : Cond) ∈ tables_1_2)))
set_option maxRecDepth 100000 in
theorem ti_354 : (.instanceMethod y_V_entryIn : Cond) ∈ lw_tbl := List.mem_append_right _ (List.mem_append_right _ (List.mem_append_left _ (List.mem_of_getElem? (i := 103) rfl : (.instanceMethod y_V_entryIn : Cond) ∈ tables_1_2)))
set_option maxRecDepth 100000 in
theorem ti_355 : (.selects "PageVault" y_V_entryIn y_V_entryIn : Cond) ∈ lw_tbl := List.mem_append_left _ (List.mem_of_getElem? (i := 15) rfl)
set_option maxRecDepth 100000 in
theorem ti_356 : (.methodLink "PageVault" 125 y_V_flagsOf : Cond) ∈ lw_tbl := List.mem_append_right _ (List.mem_append_right _ (List.mem_append_left _ (List.mem_of_getElem? (i := 105) rfl : (.methodLink "PageVault" 125 y_V_flagsOf : Cond) ∈ tables_1_2)))
set_option maxRecDepth 100000 in
theorem ti_357 : (.code y_V_make b_V_make 2 (some .int) : Cond) ∈ lw_tbl := List.mem_append_right _ (List.mem_append_left _ (List.mem_of_getElem? (i := 74) rfl : (.code y_V_make b_V_make 2 (some .int) : Cond) ∈ tables_1_1))
set_option maxRecDepth 100000 in
theorem ti_358 : (.methodLink "PageVaultLaw" 21 y_V_make : Cond) ∈ lw_tbl := List.mem_append_right _ (List.mem_append_left _ (List.mem_of_getElem? (i := 71) rfl : (.methodLink "PageVaultLaw" 21 y_V_make : Cond) ∈ tables_1_1))
set_option maxRecDepth 100000 in
theorem ti_359 : (.instanceMethod y_V_make : Cond) ∈ lw_tbl := List.mem_append_right _ (List.mem_append_left _ (List.mem_of_getElem? (i := 72) rfl : (.instanceMethod y_V_make : Cond) ∈ tables_1_1))
set_option maxRecDepth 100000 in
theorem ti_360 : (.selects "PageVault" y_V_make y_V_make : Cond) ∈ lw_tbl := List.mem_append_right _ (List.mem_append_left _ (List.mem_of_getElem? (i := 73) rfl : (.selects "PageVault" y_V_make y_V_make : Cond) ∈ tables_1_1))
set_option maxRecDepth 100000 in
theorem ti_361 : (.code y_M_make b_M_make 2 (some .int) : Cond) ∈ lw_tbl := List.mem_append_right _ (List.mem_append_right _ (List.mem_append_left _ (List.mem_of_getElem? (i := 181) rfl : (.code y_M_make b_M_make 2 (some .int) : Cond) ∈ tables_1_2)))
set_option maxRecDepth 100000 in
theorem ti_362 : (.methodLink "PageVaultLaw" 25 y_M_make : Cond) ∈ lw_tbl := List.mem_append_right _ (List.mem_append_right _ (List.mem_append_left _ (List.mem_of_getElem? (i := 178) rfl : (.methodLink "PageVaultLaw" 25 y_M_make : Cond) ∈ tables_1_2)))
set_option maxRecDepth 100000 in
theorem ti_363 : (.instanceMethod y_M_make : Cond) ∈ lw_tbl := List.mem_append_right _ (List.mem_append_right _ (List.mem_append_left _ (List.mem_of_getElem? (i := 179) rfl : (.instanceMethod y_M_make : Cond) ∈ tables_1_2)))
set_option maxRecDepth 100000 in
theorem ti_364 : (.selects "PageVaultModel" y_M_make y_M_make : Cond) ∈ lw_tbl := List.mem_append_right _ (List.mem_append_right _ (List.mem_append_left _ (List.mem_of_getElem? (i := 180) rfl : (.selects "PageVaultModel" y_M_make y_M_make : Cond) ∈ tables_1_2)))
set_option maxRecDepth 100000 in
theorem ti_365 : (.code y_V_drop b_V_drop 3 (some .boolean) : Cond) ∈ lw_tbl := List.mem_append_right _ (List.mem_append_left _ (List.mem_of_getElem? (i := 101) rfl : (.code y_V_drop b_V_drop 3 (some .boolean) : Cond) ∈ tables_1_1))
set_option maxRecDepth 100000 in
theorem ti_366 : (.methodLink "PageVaultLaw" 26 y_V_drop : Cond) ∈ lw_tbl := List.mem_append_right _ (List.mem_append_left _ (List.mem_of_getElem? (i := 98) rfl : (.methodLink "PageVaultLaw" 26 y_V_drop : Cond) ∈ tables_1_1))
set_option maxRecDepth 100000 in
theorem ti_367 : (.instanceMethod y_V_drop : Cond) ∈ lw_tbl := List.mem_append_right _ (List.mem_append_left _ (List.mem_of_getElem? (i := 99) rfl : (.instanceMethod y_V_drop : Cond) ∈ tables_1_1))
set_option maxRecDepth 100000 in
theorem ti_368 : (.selects "PageVault" y_V_drop y_V_drop : Cond) ∈ lw_tbl := List.mem_append_right _ (List.mem_append_left _ (List.mem_of_getElem? (i := 100) rfl : (.selects "PageVault" y_V_drop y_V_drop : Cond) ∈ tables_1_1))
set_option maxRecDepth 100000 in
theorem ti_369 : (.code y_M_drop b_M_drop 2 (some .boolean) : Cond) ∈ lw_tbl := List.mem_append_right _ (List.mem_append_right _ (List.mem_append_left _ (List.mem_of_getElem? (i := 197) rfl : (.code y_M_drop b_M_drop 2 (some .boolean) : Cond) ∈ tables_1_2)))
set_option maxRecDepth 100000 in
theorem ti_370 : (.methodLink "PageVaultLaw" 30 y_M_drop : Cond) ∈ lw_tbl := List.mem_append_right _ (List.mem_append_right _ (List.mem_append_left _ (List.mem_of_getElem? (i := 194) rfl : (.methodLink "PageVaultLaw" 30 y_M_drop : Cond) ∈ tables_1_2)))
set_option maxRecDepth 100000 in
theorem ti_371 : (.instanceMethod y_M_drop : Cond) ∈ lw_tbl := List.mem_append_right _ (List.mem_append_right _ (List.mem_append_left _ (List.mem_of_getElem? (i := 195) rfl : (.instanceMethod y_M_drop : Cond) ∈ tables_1_2)))
set_option maxRecDepth 100000 in
theorem ti_372 : (.selects "PageVaultModel" y_M_drop y_M_drop : Cond) ∈ lw_tbl := List.mem_append_right _ (List.mem_append_right _ (List.mem_append_left _ (List.mem_of_getElem? (i := 196) rfl : (.selects "PageVaultModel" y_M_drop y_M_drop : Cond) ∈ tables_1_2)))
set_option maxRecDepth 100000 in
theorem ti_373 : (.code y_V_fork b_V_fork 4 (some .int) : Cond) ∈ lw_tbl := List.mem_append_right _ (List.mem_append_left _ (List.mem_of_getElem? (i := 140) rfl : (.code y_V_fork b_V_fork 4 (some .int) : Cond) ∈ tables_1_1))
set_option maxRecDepth 100000 in
theorem ti_374 : (.methodLink "PageVaultLaw" 31 y_V_fork : Cond) ∈ lw_tbl := List.mem_append_right _ (List.mem_append_left _ (List.mem_of_getElem? (i := 137) rfl : (.methodLink "PageVaultLaw" 31 y_V_fork : Cond) ∈ tables_1_1))
set_option maxRecDepth 100000 in
theorem ti_375 : (.instanceMethod y_V_fork : Cond) ∈ lw_tbl := List.mem_append_right _ (List.mem_append_left _ (List.mem_of_getElem? (i := 138) rfl : (.instanceMethod y_V_fork : Cond) ∈ tables_1_1))
set_option maxRecDepth 100000 in
theorem ti_376 : (.selects "PageVault" y_V_fork y_V_fork : Cond) ∈ lw_tbl := List.mem_append_right _ (List.mem_append_left _ (List.mem_of_getElem? (i := 139) rfl : (.selects "PageVault" y_V_fork y_V_fork : Cond) ∈ tables_1_1))
set_option maxRecDepth 100000 in
theorem ti_377 : (.code y_M_fork b_M_fork 5 (some .int) : Cond) ∈ lw_tbl := List.mem_append_right _ (List.mem_append_right _ (List.mem_append_left _ (List.mem_of_getElem? (i := 213) rfl : (.code y_M_fork b_M_fork 5 (some .int) : Cond) ∈ tables_1_2)))
set_option maxRecDepth 100000 in
theorem ti_378 : (.methodLink "PageVaultLaw" 35 y_M_fork : Cond) ∈ lw_tbl := List.mem_append_right _ (List.mem_append_right _ (List.mem_append_left _ (List.mem_of_getElem? (i := 210) rfl : (.methodLink "PageVaultLaw" 35 y_M_fork : Cond) ∈ tables_1_2)))
set_option maxRecDepth 100000 in
theorem ti_379 : (.instanceMethod y_M_fork : Cond) ∈ lw_tbl := List.mem_append_right _ (List.mem_append_right _ (List.mem_append_left _ (List.mem_of_getElem? (i := 211) rfl : (.instanceMethod y_M_fork : Cond) ∈ tables_1_2)))
set_option maxRecDepth 100000 in
theorem ti_380 : (.selects "PageVaultModel" y_M_fork y_M_fork : Cond) ∈ lw_tbl := List.mem_append_right _ (List.mem_append_right _ (List.mem_append_left _ (List.mem_of_getElem? (i := 212) rfl : (.selects "PageVaultModel" y_M_fork y_M_fork : Cond) ∈ tables_1_2)))
set_option maxRecDepth 100000 in
theorem ti_381 : (.code y_V_map b_V_map 5 (some .int) : Cond) ∈ lw_tbl := List.mem_append_right _ (List.mem_append_left _ (List.mem_of_getElem? (i := 179) rfl : (.code y_V_map b_V_map 5 (some .int) : Cond) ∈ tables_1_1))
set_option maxRecDepth 100000 in
theorem ti_382 : (.methodLink "PageVaultLaw" 36 y_V_map : Cond) ∈ lw_tbl := List.mem_append_right _ (List.mem_append_left _ (List.mem_of_getElem? (i := 176) rfl : (.methodLink "PageVaultLaw" 36 y_V_map : Cond) ∈ tables_1_1))
set_option maxRecDepth 100000 in
theorem ti_383 : (.instanceMethod y_V_map : Cond) ∈ lw_tbl := List.mem_append_right _ (List.mem_append_left _ (List.mem_of_getElem? (i := 177) rfl : (.instanceMethod y_V_map : Cond) ∈ tables_1_1))
set_option maxRecDepth 100000 in
theorem ti_384 : (.selects "PageVault" y_V_map y_V_map : Cond) ∈ lw_tbl := List.mem_append_right _ (List.mem_append_left _ (List.mem_of_getElem? (i := 178) rfl : (.selects "PageVault" y_V_map y_V_map : Cond) ∈ tables_1_1))
set_option maxRecDepth 100000 in
theorem ti_385 : (.code y_M_map b_M_map 4 (some .int) : Cond) ∈ lw_tbl := List.mem_append_right _ (List.mem_append_right _ (List.mem_append_left _ (List.mem_of_getElem? (i := 233) rfl : (.code y_M_map b_M_map 4 (some .int) : Cond) ∈ tables_1_2)))
set_option maxRecDepth 100000 in
theorem ti_386 : (.methodLink "PageVaultLaw" 40 y_M_map : Cond) ∈ lw_tbl := List.mem_append_right _ (List.mem_append_right _ (List.mem_append_left _ (List.mem_of_getElem? (i := 230) rfl : (.methodLink "PageVaultLaw" 40 y_M_map : Cond) ∈ tables_1_2)))
set_option maxRecDepth 100000 in
theorem ti_387 : (.instanceMethod y_M_map : Cond) ∈ lw_tbl := List.mem_append_right _ (List.mem_append_right _ (List.mem_append_left _ (List.mem_of_getElem? (i := 231) rfl : (.instanceMethod y_M_map : Cond) ∈ tables_1_2)))
set_option maxRecDepth 100000 in
theorem ti_388 : (.selects "PageVaultModel" y_M_map y_M_map : Cond) ∈ lw_tbl := List.mem_append_right _ (List.mem_append_right _ (List.mem_append_left _ (List.mem_of_getElem? (i := 232) rfl : (.selects "PageVaultModel" y_M_map y_M_map : Cond) ∈ tables_1_2)))
set_option maxRecDepth 100000 in
theorem ti_389 : (.code y_V_protect b_V_protect 6 (some .boolean) : Cond) ∈ lw_tbl := List.mem_append_right _ (List.mem_append_left _ (List.mem_of_getElem? (i := 210) rfl : (.code y_V_protect b_V_protect 6 (some .boolean) : Cond) ∈ tables_1_1))
set_option maxRecDepth 100000 in
theorem ti_390 : (.methodLink "PageVaultLaw" 41 y_V_protect : Cond) ∈ lw_tbl := List.mem_append_right _ (List.mem_append_left _ (List.mem_of_getElem? (i := 207) rfl : (.methodLink "PageVaultLaw" 41 y_V_protect : Cond) ∈ tables_1_1))
set_option maxRecDepth 100000 in
theorem ti_391 : (.instanceMethod y_V_protect : Cond) ∈ lw_tbl := List.mem_append_right _ (List.mem_append_left _ (List.mem_of_getElem? (i := 208) rfl : (.instanceMethod y_V_protect : Cond) ∈ tables_1_1))
set_option maxRecDepth 100000 in
theorem ti_392 : (.selects "PageVault" y_V_protect y_V_protect : Cond) ∈ lw_tbl := List.mem_append_right _ (List.mem_append_left _ (List.mem_of_getElem? (i := 209) rfl : (.selects "PageVault" y_V_protect y_V_protect : Cond) ∈ tables_1_1))
set_option maxRecDepth 100000 in
theorem ti_393 : (.code y_M_protect b_M_protect 5 (some .boolean) : Cond) ∈ lw_tbl := List.mem_append_right _ (List.mem_append_right _ (List.mem_append_right _ ((List.mem_of_getElem? (i := 10) rfl : (.code y_M_protect b_M_protect 5 (some .boolean) : Cond) ∈ tables_1_3))))
set_option maxRecDepth 100000 in
theorem ti_394 : (.methodLink "PageVaultLaw" 45 y_M_protect : Cond) ∈ lw_tbl := List.mem_append_right _ (List.mem_append_right _ (List.mem_append_right _ ((List.mem_of_getElem? (i := 7) rfl : (.methodLink "PageVaultLaw" 45 y_M_protect : Cond) ∈ tables_1_3))))
set_option maxRecDepth 100000 in
theorem ti_395 : (.instanceMethod y_M_protect : Cond) ∈ lw_tbl := List.mem_append_right _ (List.mem_append_right _ (List.mem_append_right _ ((List.mem_of_getElem? (i := 8) rfl : (.instanceMethod y_M_protect : Cond) ∈ tables_1_3))))
set_option maxRecDepth 100000 in
theorem ti_396 : (.selects "PageVaultModel" y_M_protect y_M_protect : Cond) ∈ lw_tbl := List.mem_append_right _ (List.mem_append_right _ (List.mem_append_right _ ((List.mem_of_getElem? (i := 9) rfl : (.selects "PageVaultModel" y_M_protect y_M_protect : Cond) ∈ tables_1_3))))
set_option maxRecDepth 100000 in
theorem ti_397 : (.code y_V_grow b_V_grow 7 (some .int) : Cond) ∈ lw_tbl := List.mem_append_right _ (List.mem_append_left _ (List.mem_of_getElem? (i := 220) rfl : (.code y_V_grow b_V_grow 7 (some .int) : Cond) ∈ tables_1_1))
set_option maxRecDepth 100000 in
theorem ti_398 : (.methodLink "PageVaultLaw" 46 y_V_grow : Cond) ∈ lw_tbl := List.mem_append_right _ (List.mem_append_left _ (List.mem_of_getElem? (i := 217) rfl : (.methodLink "PageVaultLaw" 46 y_V_grow : Cond) ∈ tables_1_1))
set_option maxRecDepth 100000 in
theorem ti_399 : (.instanceMethod y_V_grow : Cond) ∈ lw_tbl := List.mem_append_right _ (List.mem_append_left _ (List.mem_of_getElem? (i := 218) rfl : (.instanceMethod y_V_grow : Cond) ∈ tables_1_1))
set_option maxRecDepth 100000 in
theorem ti_400 : (.selects "PageVault" y_V_grow y_V_grow : Cond) ∈ lw_tbl := List.mem_append_right _ (List.mem_append_left _ (List.mem_of_getElem? (i := 219) rfl : (.selects "PageVault" y_V_grow y_V_grow : Cond) ∈ tables_1_1))
set_option maxRecDepth 100000 in
theorem ti_401 : (.code y_M_grow b_M_grow 6 (some .int) : Cond) ∈ lw_tbl := List.mem_append_right _ (List.mem_append_right _ (List.mem_append_right _ ((List.mem_of_getElem? (i := 14) rfl : (.code y_M_grow b_M_grow 6 (some .int) : Cond) ∈ tables_1_3))))
set_option maxRecDepth 100000 in
theorem ti_402 : (.methodLink "PageVaultLaw" 50 y_M_grow : Cond) ∈ lw_tbl := List.mem_append_right _ (List.mem_append_right _ (List.mem_append_right _ ((List.mem_of_getElem? (i := 11) rfl : (.methodLink "PageVaultLaw" 50 y_M_grow : Cond) ∈ tables_1_3))))
set_option maxRecDepth 100000 in
theorem ti_403 : (.instanceMethod y_M_grow : Cond) ∈ lw_tbl := List.mem_append_right _ (List.mem_append_right _ (List.mem_append_right _ ((List.mem_of_getElem? (i := 12) rfl : (.instanceMethod y_M_grow : Cond) ∈ tables_1_3))))
set_option maxRecDepth 100000 in
theorem ti_404 : (.selects "PageVaultModel" y_M_grow y_M_grow : Cond) ∈ lw_tbl := List.mem_append_right _ (List.mem_append_right _ (List.mem_append_right _ ((List.mem_of_getElem? (i := 13) rfl : (.selects "PageVaultModel" y_M_grow y_M_grow : Cond) ∈ tables_1_3))))
set_option maxRecDepth 100000 in
theorem ti_405 : (.code y_V_size b_V_size 3 (some .int) : Cond) ∈ lw_tbl := List.mem_append_right _ (List.mem_append_left _ (List.mem_of_getElem? (i := 233) rfl : (.code y_V_size b_V_size 3 (some .int) : Cond) ∈ tables_1_1))
set_option maxRecDepth 100000 in
theorem ti_406 : (.methodLink "PageVaultLaw" 51 y_V_size : Cond) ∈ lw_tbl := List.mem_append_right _ (List.mem_append_left _ (List.mem_of_getElem? (i := 230) rfl : (.methodLink "PageVaultLaw" 51 y_V_size : Cond) ∈ tables_1_1))
set_option maxRecDepth 100000 in
theorem ti_407 : (.instanceMethod y_V_size : Cond) ∈ lw_tbl := List.mem_append_right _ (List.mem_append_left _ (List.mem_of_getElem? (i := 231) rfl : (.instanceMethod y_V_size : Cond) ∈ tables_1_1))
set_option maxRecDepth 100000 in
theorem ti_408 : (.selects "PageVault" y_V_size y_V_size : Cond) ∈ lw_tbl := List.mem_append_right _ (List.mem_append_left _ (List.mem_of_getElem? (i := 232) rfl : (.selects "PageVault" y_V_size y_V_size : Cond) ∈ tables_1_1))
set_option maxRecDepth 100000 in
theorem ti_409 : (.code y_M_size b_M_size 2 (some .int) : Cond) ∈ lw_tbl := List.mem_append_right _ (List.mem_append_right _ (List.mem_append_right _ ((List.mem_of_getElem? (i := 19) rfl : (.code y_M_size b_M_size 2 (some .int) : Cond) ∈ tables_1_3))))
set_option maxRecDepth 100000 in
theorem ti_410 : (.methodLink "PageVaultLaw" 54 y_M_size : Cond) ∈ lw_tbl := List.mem_append_right _ (List.mem_append_right _ (List.mem_append_right _ ((List.mem_of_getElem? (i := 16) rfl : (.methodLink "PageVaultLaw" 54 y_M_size : Cond) ∈ tables_1_3))))
set_option maxRecDepth 100000 in
theorem ti_411 : (.instanceMethod y_M_size : Cond) ∈ lw_tbl := List.mem_append_right _ (List.mem_append_right _ (List.mem_append_right _ ((List.mem_of_getElem? (i := 17) rfl : (.instanceMethod y_M_size : Cond) ∈ tables_1_3))))
set_option maxRecDepth 100000 in
theorem ti_412 : (.selects "PageVaultModel" y_M_size y_M_size : Cond) ∈ lw_tbl := List.mem_append_right _ (List.mem_append_right _ (List.mem_append_right _ ((List.mem_of_getElem? (i := 18) rfl : (.selects "PageVaultModel" y_M_size y_M_size : Cond) ∈ tables_1_3))))
set_option maxRecDepth 100000 in
theorem ti_413 : (.code y_V_load b_V_load 4 (some .int) : Cond) ∈ lw_tbl := List.mem_append_right _ (List.mem_append_left _ (List.mem_of_getElem? (i := 237) rfl : (.code y_V_load b_V_load 4 (some .int) : Cond) ∈ tables_1_1))
set_option maxRecDepth 100000 in
theorem ti_414 : (.methodLink "PageVaultLaw" 55 y_V_load : Cond) ∈ lw_tbl := List.mem_append_right _ (List.mem_append_left _ (List.mem_of_getElem? (i := 234) rfl : (.methodLink "PageVaultLaw" 55 y_V_load : Cond) ∈ tables_1_1))
set_option maxRecDepth 100000 in
theorem ti_415 : (.instanceMethod y_V_load : Cond) ∈ lw_tbl := List.mem_append_right _ (List.mem_append_left _ (List.mem_of_getElem? (i := 235) rfl : (.instanceMethod y_V_load : Cond) ∈ tables_1_1))
set_option maxRecDepth 100000 in
theorem ti_416 : (.selects "PageVault" y_V_load y_V_load : Cond) ∈ lw_tbl := List.mem_append_right _ (List.mem_append_left _ (List.mem_of_getElem? (i := 236) rfl : (.selects "PageVault" y_V_load y_V_load : Cond) ∈ tables_1_1))
set_option maxRecDepth 100000 in
theorem ti_417 : (.code y_M_load b_M_load 4 (some .int) : Cond) ∈ lw_tbl := List.mem_append_right _ (List.mem_append_right _ (List.mem_append_right _ ((List.mem_of_getElem? (i := 23) rfl : (.code y_M_load b_M_load 4 (some .int) : Cond) ∈ tables_1_3))))
set_option maxRecDepth 100000 in
theorem ti_418 : (.methodLink "PageVaultLaw" 58 y_M_load : Cond) ∈ lw_tbl := List.mem_append_right _ (List.mem_append_right _ (List.mem_append_right _ ((List.mem_of_getElem? (i := 20) rfl : (.methodLink "PageVaultLaw" 58 y_M_load : Cond) ∈ tables_1_3))))
set_option maxRecDepth 100000 in
theorem ti_419 : (.instanceMethod y_M_load : Cond) ∈ lw_tbl := List.mem_append_right _ (List.mem_append_right _ (List.mem_append_right _ ((List.mem_of_getElem? (i := 21) rfl : (.instanceMethod y_M_load : Cond) ∈ tables_1_3))))
set_option maxRecDepth 100000 in
theorem ti_420 : (.selects "PageVaultModel" y_M_load y_M_load : Cond) ∈ lw_tbl := List.mem_append_right _ (List.mem_append_right _ (List.mem_append_right _ ((List.mem_of_getElem? (i := 22) rfl : (.selects "PageVaultModel" y_M_load y_M_load : Cond) ∈ tables_1_3))))
set_option maxRecDepth 100000 in
theorem ti_421 : (.code y_V_fetch b_V_fetch 3 (some .int) : Cond) ∈ lw_tbl := List.mem_append_right _ (List.mem_append_right _ (List.mem_append_left _ (List.mem_of_getElem? (i := 51) rfl : (.code y_V_fetch b_V_fetch 3 (some .int) : Cond) ∈ tables_1_2)))
set_option maxRecDepth 100000 in
theorem ti_422 : (.methodLink "PageVaultLaw" 59 y_V_fetch : Cond) ∈ lw_tbl := List.mem_append_right _ (List.mem_append_right _ (List.mem_append_left _ (List.mem_of_getElem? (i := 48) rfl : (.methodLink "PageVaultLaw" 59 y_V_fetch : Cond) ∈ tables_1_2)))
set_option maxRecDepth 100000 in
theorem ti_423 : (.instanceMethod y_V_fetch : Cond) ∈ lw_tbl := List.mem_append_right _ (List.mem_append_right _ (List.mem_append_left _ (List.mem_of_getElem? (i := 49) rfl : (.instanceMethod y_V_fetch : Cond) ∈ tables_1_2)))
set_option maxRecDepth 100000 in
theorem ti_424 : (.selects "PageVault" y_V_fetch y_V_fetch : Cond) ∈ lw_tbl := List.mem_append_right _ (List.mem_append_right _ (List.mem_append_left _ (List.mem_of_getElem? (i := 50) rfl : (.selects "PageVault" y_V_fetch y_V_fetch : Cond) ∈ tables_1_2)))
set_option maxRecDepth 100000 in
theorem ti_425 : (.code y_M_fetch b_M_fetch 3 (some .int) : Cond) ∈ lw_tbl := List.mem_append_right _ (List.mem_append_right _ (List.mem_append_right _ ((List.mem_of_getElem? (i := 47) rfl : (.code y_M_fetch b_M_fetch 3 (some .int) : Cond) ∈ tables_1_3))))
set_option maxRecDepth 100000 in
theorem ti_426 : (.methodLink "PageVaultLaw" 62 y_M_fetch : Cond) ∈ lw_tbl := List.mem_append_right _ (List.mem_append_right _ (List.mem_append_right _ ((List.mem_of_getElem? (i := 44) rfl : (.methodLink "PageVaultLaw" 62 y_M_fetch : Cond) ∈ tables_1_3))))
set_option maxRecDepth 100000 in
theorem ti_427 : (.instanceMethod y_M_fetch : Cond) ∈ lw_tbl := List.mem_append_right _ (List.mem_append_right _ (List.mem_append_right _ ((List.mem_of_getElem? (i := 45) rfl : (.instanceMethod y_M_fetch : Cond) ∈ tables_1_3))))
set_option maxRecDepth 100000 in
theorem ti_428 : (.selects "PageVaultModel" y_M_fetch y_M_fetch : Cond) ∈ lw_tbl := List.mem_append_right _ (List.mem_append_right _ (List.mem_append_right _ ((List.mem_of_getElem? (i := 46) rfl : (.selects "PageVaultModel" y_M_fetch y_M_fetch : Cond) ∈ tables_1_3))))
set_option maxRecDepth 100000 in
theorem ti_429 : (.code y_V_store b_V_store 5 (some .boolean) : Cond) ∈ lw_tbl := List.mem_append_right _ (List.mem_append_right _ (List.mem_append_left _ (List.mem_of_getElem? (i := 55) rfl : (.code y_V_store b_V_store 5 (some .boolean) : Cond) ∈ tables_1_2)))
set_option maxRecDepth 100000 in
theorem ti_430 : (.methodLink "PageVaultLaw" 63 y_V_store : Cond) ∈ lw_tbl := List.mem_append_right _ (List.mem_append_right _ (List.mem_append_left _ (List.mem_of_getElem? (i := 52) rfl : (.methodLink "PageVaultLaw" 63 y_V_store : Cond) ∈ tables_1_2)))
set_option maxRecDepth 100000 in
theorem ti_431 : (.instanceMethod y_V_store : Cond) ∈ lw_tbl := List.mem_append_right _ (List.mem_append_right _ (List.mem_append_left _ (List.mem_of_getElem? (i := 53) rfl : (.instanceMethod y_V_store : Cond) ∈ tables_1_2)))
set_option maxRecDepth 100000 in
theorem ti_432 : (.selects "PageVault" y_V_store y_V_store : Cond) ∈ lw_tbl := List.mem_append_right _ (List.mem_append_right _ (List.mem_append_left _ (List.mem_of_getElem? (i := 54) rfl : (.selects "PageVault" y_V_store y_V_store : Cond) ∈ tables_1_2)))
set_option maxRecDepth 100000 in
theorem ti_433 : (.code y_M_store b_M_store 5 (some .boolean) : Cond) ∈ lw_tbl := List.mem_append_right _ (List.mem_append_right _ (List.mem_append_right _ ((List.mem_of_getElem? (i := 51) rfl : (.code y_M_store b_M_store 5 (some .boolean) : Cond) ∈ tables_1_3))))
set_option maxRecDepth 100000 in
theorem ti_434 : (.methodLink "PageVaultLaw" 67 y_M_store : Cond) ∈ lw_tbl := List.mem_append_right _ (List.mem_append_right _ (List.mem_append_right _ ((List.mem_of_getElem? (i := 48) rfl : (.methodLink "PageVaultLaw" 67 y_M_store : Cond) ∈ tables_1_3))))
set_option maxRecDepth 100000 in
theorem ti_435 : (.instanceMethod y_M_store : Cond) ∈ lw_tbl := List.mem_append_right _ (List.mem_append_right _ (List.mem_append_right _ ((List.mem_of_getElem? (i := 49) rfl : (.instanceMethod y_M_store : Cond) ∈ tables_1_3))))
set_option maxRecDepth 100000 in
theorem ti_436 : (.selects "PageVaultModel" y_M_store y_M_store : Cond) ∈ lw_tbl := List.mem_append_right _ (List.mem_append_right _ (List.mem_append_right _ ((List.mem_of_getElem? (i := 50) rfl : (.selects "PageVaultModel" y_M_store y_M_store : Cond) ∈ tables_1_3))))
set_option maxRecDepth 100000 in
theorem ti_437 : (.code y_V_trap b_V_trap 1 (some .int) : Cond) ∈ lw_tbl := List.mem_append_right _ (List.mem_append_right _ (List.mem_append_left _ (List.mem_of_getElem? (i := 68) rfl : (.code y_V_trap b_V_trap 1 (some .int) : Cond) ∈ tables_1_2)))
set_option maxRecDepth 100000 in
theorem ti_438 : (.methodLink "PageVaultLaw" 68 y_V_trap : Cond) ∈ lw_tbl := List.mem_append_right _ (List.mem_append_right _ (List.mem_append_left _ (List.mem_of_getElem? (i := 65) rfl : (.methodLink "PageVaultLaw" 68 y_V_trap : Cond) ∈ tables_1_2)))
set_option maxRecDepth 100000 in
theorem ti_439 : (.instanceMethod y_V_trap : Cond) ∈ lw_tbl := List.mem_append_right _ (List.mem_append_right _ (List.mem_append_left _ (List.mem_of_getElem? (i := 66) rfl : (.instanceMethod y_V_trap : Cond) ∈ tables_1_2)))
set_option maxRecDepth 100000 in
theorem ti_440 : (.selects "PageVault" y_V_trap y_V_trap : Cond) ∈ lw_tbl := List.mem_append_right _ (List.mem_append_right _ (List.mem_append_left _ (List.mem_of_getElem? (i := 67) rfl : (.selects "PageVault" y_V_trap y_V_trap : Cond) ∈ tables_1_2)))
set_option maxRecDepth 100000 in
theorem ti_441 : (.code y_M_trap b_M_trap 1 (some .int) : Cond) ∈ lw_tbl := List.mem_append_right _ (List.mem_append_right _ (List.mem_append_right _ ((List.mem_of_getElem? (i := 55) rfl : (.code y_M_trap b_M_trap 1 (some .int) : Cond) ∈ tables_1_3))))
set_option maxRecDepth 100000 in
theorem ti_442 : (.methodLink "PageVaultLaw" 71 y_M_trap : Cond) ∈ lw_tbl := List.mem_append_right _ (List.mem_append_right _ (List.mem_append_right _ ((List.mem_of_getElem? (i := 52) rfl : (.methodLink "PageVaultLaw" 71 y_M_trap : Cond) ∈ tables_1_3))))
set_option maxRecDepth 100000 in
theorem ti_443 : (.instanceMethod y_M_trap : Cond) ∈ lw_tbl := List.mem_append_right _ (List.mem_append_right _ (List.mem_append_right _ ((List.mem_of_getElem? (i := 53) rfl : (.instanceMethod y_M_trap : Cond) ∈ tables_1_3))))
set_option maxRecDepth 100000 in
theorem ti_444 : (.selects "PageVaultModel" y_M_trap y_M_trap : Cond) ∈ lw_tbl := List.mem_append_right _ (List.mem_append_right _ (List.mem_append_right _ ((List.mem_of_getElem? (i := 54) rfl : (.selects "PageVaultModel" y_M_trap y_M_trap : Cond) ∈ tables_1_3))))
set_option maxRecDepth 100000 in
theorem ti_445 : (.code y_V_out b_V_out 6 (some .int) : Cond) ∈ lw_tbl := List.mem_append_right _ (List.mem_append_right _ (List.mem_append_left _ (List.mem_of_getElem? (i := 72) rfl : (.code y_V_out b_V_out 6 (some .int) : Cond) ∈ tables_1_2)))
set_option maxRecDepth 100000 in
theorem ti_446 : (.methodLink "PageVaultLaw" 72 y_V_out : Cond) ∈ lw_tbl := List.mem_append_right _ (List.mem_append_right _ (List.mem_append_left _ (List.mem_of_getElem? (i := 69) rfl : (.methodLink "PageVaultLaw" 72 y_V_out : Cond) ∈ tables_1_2)))
set_option maxRecDepth 100000 in
theorem ti_447 : (.instanceMethod y_V_out : Cond) ∈ lw_tbl := List.mem_append_right _ (List.mem_append_right _ (List.mem_append_left _ (List.mem_of_getElem? (i := 70) rfl : (.instanceMethod y_V_out : Cond) ∈ tables_1_2)))
set_option maxRecDepth 100000 in
theorem ti_448 : (.selects "PageVault" y_V_out y_V_out : Cond) ∈ lw_tbl := List.mem_append_right _ (List.mem_append_right _ (List.mem_append_left _ (List.mem_of_getElem? (i := 71) rfl : (.selects "PageVault" y_V_out y_V_out : Cond) ∈ tables_1_2)))
set_option maxRecDepth 100000 in
theorem ti_449 : (.code y_M_out b_M_out 5 (some .int) : Cond) ∈ lw_tbl := List.mem_append_right _ (List.mem_append_right _ (List.mem_append_right _ ((List.mem_of_getElem? (i := 59) rfl : (.code y_M_out b_M_out 5 (some .int) : Cond) ∈ tables_1_3))))
set_option maxRecDepth 100000 in
theorem ti_450 : (.methodLink "PageVaultLaw" 75 y_M_out : Cond) ∈ lw_tbl := List.mem_append_right _ (List.mem_append_right _ (List.mem_append_right _ ((List.mem_of_getElem? (i := 56) rfl : (.methodLink "PageVaultLaw" 75 y_M_out : Cond) ∈ tables_1_3))))
set_option maxRecDepth 100000 in
theorem ti_451 : (.instanceMethod y_M_out : Cond) ∈ lw_tbl := List.mem_append_right _ (List.mem_append_right _ (List.mem_append_right _ ((List.mem_of_getElem? (i := 57) rfl : (.instanceMethod y_M_out : Cond) ∈ tables_1_3))))
set_option maxRecDepth 100000 in
theorem ti_452 : (.selects "PageVaultModel" y_M_out y_M_out : Cond) ∈ lw_tbl := List.mem_append_right _ (List.mem_append_right _ (List.mem_append_right _ ((List.mem_of_getElem? (i := 58) rfl : (.selects "PageVaultModel" y_M_out y_M_out : Cond) ∈ tables_1_3))))
set_option maxRecDepth 100000 in
theorem ti_453 : (.code y_V_in b_V_in 7 (some .int) : Cond) ∈ lw_tbl := List.mem_append_right _ (List.mem_append_right _ (List.mem_append_left _ (List.mem_of_getElem? (i := 76) rfl : (.code y_V_in b_V_in 7 (some .int) : Cond) ∈ tables_1_2)))
set_option maxRecDepth 100000 in
theorem ti_454 : (.methodLink "PageVaultLaw" 76 y_V_in : Cond) ∈ lw_tbl := List.mem_append_right _ (List.mem_append_right _ (List.mem_append_left _ (List.mem_of_getElem? (i := 73) rfl : (.methodLink "PageVaultLaw" 76 y_V_in : Cond) ∈ tables_1_2)))
set_option maxRecDepth 100000 in
theorem ti_455 : (.instanceMethod y_V_in : Cond) ∈ lw_tbl := List.mem_append_right _ (List.mem_append_right _ (List.mem_append_left _ (List.mem_of_getElem? (i := 74) rfl : (.instanceMethod y_V_in : Cond) ∈ tables_1_2)))
set_option maxRecDepth 100000 in
theorem ti_456 : (.selects "PageVault" y_V_in y_V_in : Cond) ∈ lw_tbl := List.mem_append_right _ (List.mem_append_right _ (List.mem_append_left _ (List.mem_of_getElem? (i := 75) rfl : (.selects "PageVault" y_V_in y_V_in : Cond) ∈ tables_1_2)))
set_option maxRecDepth 100000 in
theorem ti_457 : (.code y_M_in b_M_in 5 (some .int) : Cond) ∈ lw_tbl := List.mem_append_right _ (List.mem_append_right _ (List.mem_append_right _ ((List.mem_of_getElem? (i := 67) rfl : (.code y_M_in b_M_in 5 (some .int) : Cond) ∈ tables_1_3))))
set_option maxRecDepth 100000 in
theorem ti_458 : (.methodLink "PageVaultLaw" 79 y_M_in : Cond) ∈ lw_tbl := List.mem_append_right _ (List.mem_append_right _ (List.mem_append_right _ ((List.mem_of_getElem? (i := 64) rfl : (.methodLink "PageVaultLaw" 79 y_M_in : Cond) ∈ tables_1_3))))
set_option maxRecDepth 100000 in
theorem ti_459 : (.instanceMethod y_M_in : Cond) ∈ lw_tbl := List.mem_append_right _ (List.mem_append_right _ (List.mem_append_right _ ((List.mem_of_getElem? (i := 65) rfl : (.instanceMethod y_M_in : Cond) ∈ tables_1_3))))
set_option maxRecDepth 100000 in
theorem ti_460 : (.selects "PageVaultModel" y_M_in y_M_in : Cond) ∈ lw_tbl := List.mem_append_right _ (List.mem_append_right _ (List.mem_append_right _ ((List.mem_of_getElem? (i := 66) rfl : (.selects "PageVaultModel" y_M_in y_M_in : Cond) ∈ tables_1_3))))
set_option maxRecDepth 100000 in
theorem ti_461 : (.code y_V_text b_V_text 7 (some .int) : Cond) ∈ lw_tbl := List.mem_append_right _ (List.mem_append_right _ (List.mem_append_left _ (List.mem_of_getElem? (i := 84) rfl : (.code y_V_text b_V_text 7 (some .int) : Cond) ∈ tables_1_2)))
set_option maxRecDepth 100000 in
theorem ti_462 : (.methodLink "PageVaultLaw" 80 y_V_text : Cond) ∈ lw_tbl := List.mem_append_right _ (List.mem_append_right _ (List.mem_append_left _ (List.mem_of_getElem? (i := 81) rfl : (.methodLink "PageVaultLaw" 80 y_V_text : Cond) ∈ tables_1_2)))
set_option maxRecDepth 100000 in
theorem ti_463 : (.instanceMethod y_V_text : Cond) ∈ lw_tbl := List.mem_append_right _ (List.mem_append_right _ (List.mem_append_left _ (List.mem_of_getElem? (i := 82) rfl : (.instanceMethod y_V_text : Cond) ∈ tables_1_2)))
set_option maxRecDepth 100000 in
theorem ti_464 : (.selects "PageVault" y_V_text y_V_text : Cond) ∈ lw_tbl := List.mem_append_right _ (List.mem_append_right _ (List.mem_append_left _ (List.mem_of_getElem? (i := 83) rfl : (.selects "PageVault" y_V_text y_V_text : Cond) ∈ tables_1_2)))
set_option maxRecDepth 100000 in
theorem ti_465 : (.code y_M_text b_M_text 5 (some .int) : Cond) ∈ lw_tbl := List.mem_append_right _ (List.mem_append_right _ (List.mem_append_right _ ((List.mem_of_getElem? (i := 75) rfl : (.code y_M_text b_M_text 5 (some .int) : Cond) ∈ tables_1_3))))
set_option maxRecDepth 100000 in
theorem ti_466 : (.methodLink "PageVaultLaw" 83 y_M_text : Cond) ∈ lw_tbl := List.mem_append_right _ (List.mem_append_right _ (List.mem_append_right _ ((List.mem_of_getElem? (i := 72) rfl : (.methodLink "PageVaultLaw" 83 y_M_text : Cond) ∈ tables_1_3))))
set_option maxRecDepth 100000 in
theorem ti_467 : (.instanceMethod y_M_text : Cond) ∈ lw_tbl := List.mem_append_right _ (List.mem_append_right _ (List.mem_append_right _ ((List.mem_of_getElem? (i := 73) rfl : (.instanceMethod y_M_text : Cond) ∈ tables_1_3))))
set_option maxRecDepth 100000 in
theorem ti_468 : (.selects "PageVaultModel" y_M_text y_M_text : Cond) ∈ lw_tbl := List.mem_append_right _ (List.mem_append_right _ (List.mem_append_right _ ((List.mem_of_getElem? (i := 74) rfl : (.selects "PageVaultModel" y_M_text y_M_text : Cond) ∈ tables_1_3))))
set_option maxRecDepth 100000 in
theorem ti_469 : (.code y_V_put b_V_put 3 (some .boolean) : Cond) ∈ lw_tbl := List.mem_append_right _ (List.mem_append_right _ (List.mem_append_left _ (List.mem_of_getElem? (i := 88) rfl : (.code y_V_put b_V_put 3 (some .boolean) : Cond) ∈ tables_1_2)))
set_option maxRecDepth 100000 in
theorem ti_470 : (.methodLink "PageVaultLaw" 84 y_V_put : Cond) ∈ lw_tbl := List.mem_append_right _ (List.mem_append_right _ (List.mem_append_left _ (List.mem_of_getElem? (i := 85) rfl : (.methodLink "PageVaultLaw" 84 y_V_put : Cond) ∈ tables_1_2)))
set_option maxRecDepth 100000 in
theorem ti_471 : (.instanceMethod y_V_put : Cond) ∈ lw_tbl := List.mem_append_right _ (List.mem_append_right _ (List.mem_append_left _ (List.mem_of_getElem? (i := 86) rfl : (.instanceMethod y_V_put : Cond) ∈ tables_1_2)))
set_option maxRecDepth 100000 in
theorem ti_472 : (.selects "PageVault" y_V_put y_V_put : Cond) ∈ lw_tbl := List.mem_append_right _ (List.mem_append_right _ (List.mem_append_left _ (List.mem_of_getElem? (i := 87) rfl : (.selects "PageVault" y_V_put y_V_put : Cond) ∈ tables_1_2)))
set_option maxRecDepth 100000 in
theorem ti_473 : (.code y_M_put b_M_put 3 (some .boolean) : Cond) ∈ lw_tbl := List.mem_append_right _ (List.mem_append_right _ (List.mem_append_right _ ((List.mem_of_getElem? (i := 79) rfl : (.code y_M_put b_M_put 3 (some .boolean) : Cond) ∈ tables_1_3))))
set_option maxRecDepth 100000 in
theorem ti_474 : (.methodLink "PageVaultLaw" 88 y_M_put : Cond) ∈ lw_tbl := List.mem_append_right _ (List.mem_append_right _ (List.mem_append_right _ ((List.mem_of_getElem? (i := 76) rfl : (.methodLink "PageVaultLaw" 88 y_M_put : Cond) ∈ tables_1_3))))
set_option maxRecDepth 100000 in
theorem ti_475 : (.instanceMethod y_M_put : Cond) ∈ lw_tbl := List.mem_append_right _ (List.mem_append_right _ (List.mem_append_right _ ((List.mem_of_getElem? (i := 77) rfl : (.instanceMethod y_M_put : Cond) ∈ tables_1_3))))
set_option maxRecDepth 100000 in
theorem ti_476 : (.selects "PageVaultModel" y_M_put y_M_put : Cond) ∈ lw_tbl := List.mem_append_right _ (List.mem_append_right _ (List.mem_append_right _ ((List.mem_of_getElem? (i := 78) rfl : (.selects "PageVaultModel" y_M_put y_M_put : Cond) ∈ tables_1_3))))
set_option maxRecDepth 100000 in
theorem ti_477 : (.code y_V_at b_V_at 2 (some .int) : Cond) ∈ lw_tbl := List.mem_append_right _ (List.mem_append_right _ (List.mem_append_left _ (List.mem_of_getElem? (i := 92) rfl : (.code y_V_at b_V_at 2 (some .int) : Cond) ∈ tables_1_2)))
set_option maxRecDepth 100000 in
theorem ti_478 : (.methodLink "PageVaultLaw" 89 y_V_at : Cond) ∈ lw_tbl := List.mem_append_right _ (List.mem_append_right _ (List.mem_append_left _ (List.mem_of_getElem? (i := 89) rfl : (.methodLink "PageVaultLaw" 89 y_V_at : Cond) ∈ tables_1_2)))
set_option maxRecDepth 100000 in
theorem ti_479 : (.instanceMethod y_V_at : Cond) ∈ lw_tbl := List.mem_append_right _ (List.mem_append_right _ (List.mem_append_left _ (List.mem_of_getElem? (i := 90) rfl : (.instanceMethod y_V_at : Cond) ∈ tables_1_2)))
set_option maxRecDepth 100000 in
theorem ti_480 : (.selects "PageVault" y_V_at y_V_at : Cond) ∈ lw_tbl := List.mem_append_right _ (List.mem_append_right _ (List.mem_append_left _ (List.mem_of_getElem? (i := 91) rfl : (.selects "PageVault" y_V_at y_V_at : Cond) ∈ tables_1_2)))
set_option maxRecDepth 100000 in
theorem ti_481 : (.code y_M_at b_M_at 2 (some .int) : Cond) ∈ lw_tbl := List.mem_append_right _ (List.mem_append_right _ (List.mem_append_right _ ((List.mem_of_getElem? (i := 83) rfl : (.code y_M_at b_M_at 2 (some .int) : Cond) ∈ tables_1_3))))
set_option maxRecDepth 100000 in
theorem ti_482 : (.methodLink "PageVaultLaw" 92 y_M_at : Cond) ∈ lw_tbl := List.mem_append_right _ (List.mem_append_right _ (List.mem_append_right _ ((List.mem_of_getElem? (i := 80) rfl : (.methodLink "PageVaultLaw" 92 y_M_at : Cond) ∈ tables_1_3))))
set_option maxRecDepth 100000 in
theorem ti_483 : (.instanceMethod y_M_at : Cond) ∈ lw_tbl := List.mem_append_right _ (List.mem_append_right _ (List.mem_append_right _ ((List.mem_of_getElem? (i := 81) rfl : (.instanceMethod y_M_at : Cond) ∈ tables_1_3))))
set_option maxRecDepth 100000 in
theorem ti_484 : (.selects "PageVaultModel" y_M_at y_M_at : Cond) ∈ lw_tbl := List.mem_append_right _ (List.mem_append_right _ (List.mem_append_right _ ((List.mem_of_getElem? (i := 82) rfl : (.selects "PageVaultModel" y_M_at y_M_at : Cond) ∈ tables_1_3))))
set_option maxRecDepth 100000 in
theorem ti_485 : (.code y_V_free b_V_free 1 (some .int) : Cond) ∈ lw_tbl := List.mem_append_right _ (List.mem_append_right _ (List.mem_append_left _ (List.mem_of_getElem? (i := 96) rfl : (.code y_V_free b_V_free 1 (some .int) : Cond) ∈ tables_1_2)))
set_option maxRecDepth 100000 in
theorem ti_486 : (.methodLink "PageVaultLaw" 93 y_V_free : Cond) ∈ lw_tbl := List.mem_append_right _ (List.mem_append_right _ (List.mem_append_left _ (List.mem_of_getElem? (i := 93) rfl : (.methodLink "PageVaultLaw" 93 y_V_free : Cond) ∈ tables_1_2)))
set_option maxRecDepth 100000 in
theorem ti_487 : (.instanceMethod y_V_free : Cond) ∈ lw_tbl := List.mem_append_right _ (List.mem_append_right _ (List.mem_append_left _ (List.mem_of_getElem? (i := 94) rfl : (.instanceMethod y_V_free : Cond) ∈ tables_1_2)))
set_option maxRecDepth 100000 in
theorem ti_488 : (.selects "PageVault" y_V_free y_V_free : Cond) ∈ lw_tbl := List.mem_append_right _ (List.mem_append_right _ (List.mem_append_left _ (List.mem_of_getElem? (i := 95) rfl : (.selects "PageVault" y_V_free y_V_free : Cond) ∈ tables_1_2)))
set_option maxRecDepth 100000 in
theorem ti_489 : (.code y_M_free b_M_free 1 (some .int) : Cond) ∈ lw_tbl := List.mem_append_right _ (List.mem_append_right _ (List.mem_append_right _ ((List.mem_of_getElem? (i := 87) rfl : (.code y_M_free b_M_free 1 (some .int) : Cond) ∈ tables_1_3))))
set_option maxRecDepth 100000 in
theorem ti_490 : (.methodLink "PageVaultLaw" 96 y_M_free : Cond) ∈ lw_tbl := List.mem_append_right _ (List.mem_append_right _ (List.mem_append_right _ ((List.mem_of_getElem? (i := 84) rfl : (.methodLink "PageVaultLaw" 96 y_M_free : Cond) ∈ tables_1_3))))
set_option maxRecDepth 100000 in
theorem ti_491 : (.instanceMethod y_M_free : Cond) ∈ lw_tbl := List.mem_append_right _ (List.mem_append_right _ (List.mem_append_right _ ((List.mem_of_getElem? (i := 85) rfl : (.instanceMethod y_M_free : Cond) ∈ tables_1_3))))
set_option maxRecDepth 100000 in
theorem ti_492 : (.selects "PageVaultModel" y_M_free y_M_free : Cond) ∈ lw_tbl := List.mem_append_right _ (List.mem_append_right _ (List.mem_append_right _ ((List.mem_of_getElem? (i := 86) rfl : (.selects "PageVaultModel" y_M_free y_M_free : Cond) ∈ tables_1_3))))
set_option maxRecDepth 100000 in
theorem ti_493 : (.code y_V_flags b_V_flags 4 (some .int) : Cond) ∈ lw_tbl := List.mem_append_right _ (List.mem_append_right _ (List.mem_append_left _ (List.mem_of_getElem? (i := 100) rfl : (.code y_V_flags b_V_flags 4 (some .int) : Cond) ∈ tables_1_2)))
set_option maxRecDepth 100000 in
theorem ti_494 : (.methodLink "PageVaultLaw" 97 y_V_flags : Cond) ∈ lw_tbl := List.mem_append_right _ (List.mem_append_right _ (List.mem_append_left _ (List.mem_of_getElem? (i := 97) rfl : (.methodLink "PageVaultLaw" 97 y_V_flags : Cond) ∈ tables_1_2)))
set_option maxRecDepth 100000 in
theorem ti_495 : (.instanceMethod y_V_flags : Cond) ∈ lw_tbl := List.mem_append_right _ (List.mem_append_right _ (List.mem_append_left _ (List.mem_of_getElem? (i := 98) rfl : (.instanceMethod y_V_flags : Cond) ∈ tables_1_2)))
set_option maxRecDepth 100000 in
theorem ti_496 : (.selects "PageVault" y_V_flags y_V_flags : Cond) ∈ lw_tbl := List.mem_append_right _ (List.mem_append_right _ (List.mem_append_left _ (List.mem_of_getElem? (i := 99) rfl : (.selects "PageVault" y_V_flags y_V_flags : Cond) ∈ tables_1_2)))
set_option maxRecDepth 100000 in
theorem ti_497 : (.code y_M_flags b_M_flags 4 (some .int) : Cond) ∈ lw_tbl := List.mem_append_right _ (List.mem_append_right _ (List.mem_append_right _ ((List.mem_of_getElem? (i := 91) rfl : (.code y_M_flags b_M_flags 4 (some .int) : Cond) ∈ tables_1_3))))
set_option maxRecDepth 100000 in
theorem ti_498 : (.methodLink "PageVaultLaw" 100 y_M_flags : Cond) ∈ lw_tbl := List.mem_append_right _ (List.mem_append_right _ (List.mem_append_right _ ((List.mem_of_getElem? (i := 88) rfl : (.methodLink "PageVaultLaw" 100 y_M_flags : Cond) ∈ tables_1_3))))
set_option maxRecDepth 100000 in
theorem ti_499 : (.instanceMethod y_M_flags : Cond) ∈ lw_tbl := List.mem_append_right _ (List.mem_append_right _ (List.mem_append_right _ ((List.mem_of_getElem? (i := 89) rfl : (.instanceMethod y_M_flags : Cond) ∈ tables_1_3))))
set_option maxRecDepth 100000 in
theorem ti_500 : (.selects "PageVaultModel" y_M_flags y_M_flags : Cond) ∈ lw_tbl := List.mem_append_right _ (List.mem_append_right _ (List.mem_append_right _ ((List.mem_of_getElem? (i := 90) rfl : (.selects "PageVaultModel" y_M_flags y_M_flags : Cond) ∈ tables_1_3))))
set_option maxRecDepth 100000 in
theorem ti_501 : (.code y_V_owners b_V_owners 3 (some .int) : Cond) ∈ lw_tbl := List.mem_append_right _ (List.mem_append_right _ (List.mem_append_left _ (List.mem_of_getElem? (i := 109) rfl : (.code y_V_owners b_V_owners 3 (some .int) : Cond) ∈ tables_1_2)))
set_option maxRecDepth 100000 in
theorem ti_502 : (.methodLink "PageVaultLaw" 101 y_V_owners : Cond) ∈ lw_tbl := List.mem_append_right _ (List.mem_append_right _ (List.mem_append_left _ (List.mem_of_getElem? (i := 106) rfl : (.methodLink "PageVaultLaw" 101 y_V_owners : Cond) ∈ tables_1_2)))
set_option maxRecDepth 100000 in
theorem ti_503 : (.instanceMethod y_V_owners : Cond) ∈ lw_tbl := List.mem_append_right _ (List.mem_append_right _ (List.mem_append_left _ (List.mem_of_getElem? (i := 107) rfl : (.instanceMethod y_V_owners : Cond) ∈ tables_1_2)))
set_option maxRecDepth 100000 in
theorem ti_504 : (.selects "PageVault" y_V_owners y_V_owners : Cond) ∈ lw_tbl := List.mem_append_right _ (List.mem_append_right _ (List.mem_append_left _ (List.mem_of_getElem? (i := 108) rfl : (.selects "PageVault" y_V_owners y_V_owners : Cond) ∈ tables_1_2)))
set_option maxRecDepth 100000 in
theorem ti_505 : (.code y_M_owners b_M_owners 4 (some .int) : Cond) ∈ lw_tbl := List.mem_append_right _ (List.mem_append_right _ (List.mem_append_right _ ((List.mem_of_getElem? (i := 95) rfl : (.code y_M_owners b_M_owners 4 (some .int) : Cond) ∈ tables_1_3))))
set_option maxRecDepth 100000 in
theorem ti_506 : (.methodLink "PageVaultLaw" 104 y_M_owners : Cond) ∈ lw_tbl := List.mem_append_right _ (List.mem_append_right _ (List.mem_append_right _ ((List.mem_of_getElem? (i := 92) rfl : (.methodLink "PageVaultLaw" 104 y_M_owners : Cond) ∈ tables_1_3))))
set_option maxRecDepth 100000 in
theorem ti_507 : (.instanceMethod y_M_owners : Cond) ∈ lw_tbl := List.mem_append_right _ (List.mem_append_right _ (List.mem_append_right _ ((List.mem_of_getElem? (i := 93) rfl : (.instanceMethod y_M_owners : Cond) ∈ tables_1_3))))
set_option maxRecDepth 100000 in
theorem ti_508 : (.selects "PageVaultModel" y_M_owners y_M_owners : Cond) ∈ lw_tbl := List.mem_append_right _ (List.mem_append_right _ (List.mem_append_right _ ((List.mem_of_getElem? (i := 94) rfl : (.selects "PageVaultModel" y_M_owners y_M_owners : Cond) ∈ tables_1_3))))
set_option maxRecDepth 100000 in
theorem ti_509 : (.laysFinal "PageVault" "PageVault" "frames" "LPageVault$Frames;" : Cond) ∈ lw_tbl := List.mem_append_right _ (List.mem_append_left _ (List.mem_of_getElem? (i := 62) rfl : (.laysFinal "PageVault" "PageVault" "frames" "LPageVault$Frames;" : Cond) ∈ tables_1_1))
set_option maxRecDepth 100000 in
theorem ti_510 : (.laysFinal "PageVault" "PageVault" "spaces" "[LPageVault$Space;" : Cond) ∈ lw_tbl := List.mem_append_right _ (List.mem_append_left _ (List.mem_of_getElem? (i := 64) rfl : (.laysFinal "PageVault" "PageVault" "spaces" "[LPageVault$Space;" : Cond) ∈ tables_1_1))
set_option maxRecDepth 100000 in
theorem ti_511 : (.laysFinal "PageVault" "PageVault" "buffer" "[I" : Cond) ∈ lw_tbl := List.mem_append_right _ (List.mem_append_left _ (List.mem_of_getElem? (i := 66) rfl : (.laysFinal "PageVault" "PageVault" "buffer" "[I" : Cond) ∈ tables_1_1))
set_option maxRecDepth 100000 in
theorem ti_512 : (.lays "PageVault" "PageVault" "latestTrap" "I" : Cond) ∈ lw_tbl := List.mem_append_right _ (List.mem_append_left _ (List.mem_of_getElem? (i := 68) rfl : (.lays "PageVault" "PageVault" "latestTrap" "I" : Cond) ∈ tables_1_1))
set_option maxRecDepth 100000 in
theorem ti_513 : (.laysFinal "PageVault$Frames" "PageVault$Frames" "words" "[[I" : Cond) ∈ lw_tbl := List.mem_append_right _ (List.mem_append_left _ (List.mem_of_getElem? (i := 33) rfl : (.laysFinal "PageVault$Frames" "PageVault$Frames" "words" "[[I" : Cond) ∈ tables_1_1))
set_option maxRecDepth 100000 in
theorem ti_514 : (.laysFinal "PageVault$Frames" "PageVault$Frames" "holders" "[I" : Cond) ∈ lw_tbl := List.mem_append_right _ (List.mem_append_left _ (List.mem_of_getElem? (i := 35) rfl : (.laysFinal "PageVault$Frames" "PageVault$Frames" "holders" "[I" : Cond) ∈ tables_1_1))
set_option maxRecDepth 100000 in
theorem ti_515 : (.lays "PageVault$Frames" "PageVault$Frames" "spare" "I" : Cond) ∈ lw_tbl := List.mem_append_right _ (List.mem_append_left _ (List.mem_of_getElem? (i := 37) rfl : (.lays "PageVault$Frames" "PageVault$Frames" "spare" "I" : Cond) ∈ tables_1_1))
set_option maxRecDepth 100000 in
theorem ti_516 : (.laysFinal "PageVault$Space" "PageVault$Space" "frames" "LPageVault$Frames;" : Cond) ∈ lw_tbl := List.mem_append_right _ (List.mem_append_left _ (List.mem_of_getElem? (i := 51) rfl : (.laysFinal "PageVault$Space" "PageVault$Space" "frames" "LPageVault$Frames;" : Cond) ∈ tables_1_1))
set_option maxRecDepth 100000 in
theorem ti_517 : (.lays "PageVault$Space" "PageVault$Space" "root" "I" : Cond) ∈ lw_tbl := List.mem_append_right _ (List.mem_append_left _ (List.mem_of_getElem? (i := 53) rfl : (.lays "PageVault$Space" "PageVault$Space" "root" "I" : Cond) ∈ tables_1_1))
set_option maxRecDepth 100000 in
theorem ti_518 : (.lays "PageVault$Space" "PageVault$Space" "length" "I" : Cond) ∈ lw_tbl := List.mem_append_right _ (List.mem_append_left _ (List.mem_of_getElem? (i := 55) rfl : (.lays "PageVault$Space" "PageVault$Space" "length" "I" : Cond) ∈ tables_1_1))
set_option maxRecDepth 100000 in
theorem ti_519 : (.lays "PageVaultModel" "PageVaultModel" "frames" "I" : Cond) ∈ lw_tbl := List.mem_append_right _ (List.mem_append_right _ (List.mem_append_left _ (List.mem_of_getElem? (i := 138) rfl : (.lays "PageVaultModel" "PageVaultModel" "frames" "I" : Cond) ∈ tables_1_2)))
set_option maxRecDepth 100000 in
theorem ti_520 : (.lays "PageVaultModel" "PageVaultModel" "lastTrap" "I" : Cond) ∈ lw_tbl := List.mem_append_right _ (List.mem_append_right _ (List.mem_append_left _ (List.mem_of_getElem? (i := 140) rfl : (.lays "PageVaultModel" "PageVaultModel" "lastTrap" "I" : Cond) ∈ tables_1_2)))
set_option maxRecDepth 100000 in
theorem ti_521 : (.laysFinal "PageVaultModel" "PageVaultModel" "alive" "[Z" : Cond) ∈ lw_tbl := List.mem_append_right _ (List.mem_append_right _ (List.mem_append_left _ (List.mem_of_getElem? (i := 142) rfl : (.laysFinal "PageVaultModel" "PageVaultModel" "alive" "[Z" : Cond) ∈ tables_1_2)))
set_option maxRecDepth 100000 in
theorem ti_522 : (.laysFinal "PageVaultModel" "PageVaultModel" "ends" "[I" : Cond) ∈ lw_tbl := List.mem_append_right _ (List.mem_append_right _ (List.mem_append_left _ (List.mem_of_getElem? (i := 144) rfl : (.laysFinal "PageVaultModel" "PageVaultModel" "ends" "[I" : Cond) ∈ tables_1_2)))
set_option maxRecDepth 100000 in
theorem ti_523 : (.laysFinal "PageVaultModel" "PageVaultModel" "pageSpace" "[I" : Cond) ∈ lw_tbl := List.mem_append_right _ (List.mem_append_right _ (List.mem_append_left _ (List.mem_of_getElem? (i := 146) rfl : (.laysFinal "PageVaultModel" "PageVaultModel" "pageSpace" "[I" : Cond) ∈ tables_1_2)))
set_option maxRecDepth 100000 in
theorem ti_524 : (.laysFinal "PageVaultModel" "PageVaultModel" "pageNumber" "[I" : Cond) ∈ lw_tbl := List.mem_append_right _ (List.mem_append_right _ (List.mem_append_left _ (List.mem_of_getElem? (i := 148) rfl : (.laysFinal "PageVaultModel" "PageVaultModel" "pageNumber" "[I" : Cond) ∈ tables_1_2)))
set_option maxRecDepth 100000 in
theorem ti_525 : (.laysFinal "PageVaultModel" "PageVaultModel" "pageFlags" "[I" : Cond) ∈ lw_tbl := List.mem_append_right _ (List.mem_append_right _ (List.mem_append_left _ (List.mem_of_getElem? (i := 150) rfl : (.laysFinal "PageVaultModel" "PageVaultModel" "pageFlags" "[I" : Cond) ∈ tables_1_2)))
set_option maxRecDepth 100000 in
theorem ti_526 : (.laysFinal "PageVaultModel" "PageVaultModel" "pageKin" "[I" : Cond) ∈ lw_tbl := List.mem_append_right _ (List.mem_append_right _ (List.mem_append_left _ (List.mem_of_getElem? (i := 152) rfl : (.laysFinal "PageVaultModel" "PageVaultModel" "pageKin" "[I" : Cond) ∈ tables_1_2)))
set_option maxRecDepth 100000 in
theorem ti_527 : (.lays "PageVaultModel" "PageVaultModel" "pages" "I" : Cond) ∈ lw_tbl := List.mem_append_right _ (List.mem_append_right _ (List.mem_append_left _ (List.mem_of_getElem? (i := 154) rfl : (.lays "PageVaultModel" "PageVaultModel" "pages" "I" : Cond) ∈ tables_1_2)))
set_option maxRecDepth 100000 in
theorem ti_528 : (.lays "PageVaultModel" "PageVaultModel" "kins" "I" : Cond) ∈ lw_tbl := List.mem_append_right _ (List.mem_append_right _ (List.mem_append_left _ (List.mem_of_getElem? (i := 156) rfl : (.lays "PageVaultModel" "PageVaultModel" "kins" "I" : Cond) ∈ tables_1_2)))
set_option maxRecDepth 100000 in
theorem ti_529 : (.laysFinal "PageVaultModel" "PageVaultModel" "regionSpace" "[I" : Cond) ∈ lw_tbl := List.mem_append_right _ (List.mem_append_right _ (List.mem_append_left _ (List.mem_of_getElem? (i := 158) rfl : (.laysFinal "PageVaultModel" "PageVaultModel" "regionSpace" "[I" : Cond) ∈ tables_1_2)))
set_option maxRecDepth 100000 in
theorem ti_530 : (.laysFinal "PageVaultModel" "PageVaultModel" "regionNumber" "[I" : Cond) ∈ lw_tbl := List.mem_append_right _ (List.mem_append_right _ (List.mem_append_left _ (List.mem_of_getElem? (i := 160) rfl : (.laysFinal "PageVaultModel" "PageVaultModel" "regionNumber" "[I" : Cond) ∈ tables_1_2)))
set_option maxRecDepth 100000 in
theorem ti_531 : (.lays "PageVaultModel" "PageVaultModel" "regions" "I" : Cond) ∈ lw_tbl := List.mem_append_right _ (List.mem_append_right _ (List.mem_append_left _ (List.mem_of_getElem? (i := 162) rfl : (.lays "PageVaultModel" "PageVaultModel" "regions" "I" : Cond) ∈ tables_1_2)))
set_option maxRecDepth 100000 in
theorem ti_532 : (.laysFinal "PageVaultModel" "PageVaultModel" "deed" "[I" : Cond) ∈ lw_tbl := List.mem_append_right _ (List.mem_append_right _ (List.mem_append_left _ (List.mem_of_getElem? (i := 164) rfl : (.laysFinal "PageVaultModel" "PageVaultModel" "deed" "[I" : Cond) ∈ tables_1_2)))
set_option maxRecDepth 100000 in
theorem ti_533 : (.laysFinal "PageVaultModel" "PageVaultModel" "who" "[I" : Cond) ∈ lw_tbl := List.mem_append_right _ (List.mem_append_right _ (List.mem_append_left _ (List.mem_of_getElem? (i := 166) rfl : (.laysFinal "PageVaultModel" "PageVaultModel" "who" "[I" : Cond) ∈ tables_1_2)))
set_option maxRecDepth 100000 in
theorem ti_534 : (.laysFinal "PageVaultModel" "PageVaultModel" "where" "[I" : Cond) ∈ lw_tbl := List.mem_append_right _ (List.mem_append_right _ (List.mem_append_left _ (List.mem_of_getElem? (i := 168) rfl : (.laysFinal "PageVaultModel" "PageVaultModel" "where" "[I" : Cond) ∈ tables_1_2)))
set_option maxRecDepth 100000 in
theorem ti_535 : (.laysFinal "PageVaultModel" "PageVaultModel" "much" "[I" : Cond) ∈ lw_tbl := List.mem_append_right _ (List.mem_append_right _ (List.mem_append_left _ (List.mem_of_getElem? (i := 170) rfl : (.laysFinal "PageVaultModel" "PageVaultModel" "much" "[I" : Cond) ∈ tables_1_2)))
set_option maxRecDepth 100000 in
theorem ti_536 : (.laysFinal "PageVaultModel" "PageVaultModel" "what" "[I" : Cond) ∈ lw_tbl := List.mem_append_right _ (List.mem_append_right _ (List.mem_append_left _ (List.mem_of_getElem? (i := 172) rfl : (.laysFinal "PageVaultModel" "PageVaultModel" "what" "[I" : Cond) ∈ tables_1_2)))
set_option maxRecDepth 100000 in
theorem ti_537 : (.lays "PageVaultModel" "PageVaultModel" "deeds" "I" : Cond) ∈ lw_tbl := List.mem_append_right _ (List.mem_append_right _ (List.mem_append_left _ (List.mem_of_getElem? (i := 174) rfl : (.lays "PageVaultModel" "PageVaultModel" "deeds" "I" : Cond) ∈ tables_1_2)))
set_option maxRecDepth 100000 in
theorem TG_in : ∀ w ∈ TG, w ∈ lw_tbl := List.forall_mem_cons.mpr ⟨ti_0, List.forall_mem_cons.mpr ⟨ti_1, List.forall_mem_cons.mpr ⟨ti_2, List.forall_mem_cons.mpr ⟨ti_3, List.forall_mem_cons.mpr ⟨ti_4, List.forall_mem_cons.mpr ⟨ti_5, List.forall_mem_cons.mpr ⟨ti_6, List.forall_mem_cons.mpr ⟨ti_7, List.forall_mem_cons.mpr ⟨ti_8, List.forall_mem_cons.mpr ⟨ti_9, List.forall_mem_cons.mpr ⟨ti_10, List.forall_mem_cons.mpr ⟨ti_11, List.forall_mem_cons.mpr ⟨ti_12, List.forall_mem_cons.mpr ⟨ti_13, List.forall_mem_cons.mpr ⟨ti_14, List.forall_mem_cons.mpr ⟨ti_15, List.forall_mem_cons.mpr ⟨ti_16, List.forall_mem_cons.mpr ⟨ti_17, List.forall_mem_cons.mpr ⟨ti_18, List.forall_mem_cons.mpr ⟨ti_19, List.forall_mem_cons.mpr ⟨ti_20, List.forall_mem_cons.mpr ⟨ti_21, List.forall_mem_cons.mpr ⟨ti_22, List.forall_mem_cons.mpr ⟨ti_23, List.forall_mem_cons.mpr ⟨ti_24, List.forall_mem_cons.mpr ⟨ti_25, List.forall_mem_cons.mpr ⟨ti_26, List.forall_mem_cons.mpr ⟨ti_27, List.forall_mem_cons.mpr ⟨ti_28, List.forall_mem_cons.mpr ⟨ti_29, List.forall_mem_cons.mpr ⟨ti_30, List.forall_mem_cons.mpr ⟨ti_31, List.forall_mem_cons.mpr ⟨ti_32, List.forall_mem_cons.mpr ⟨ti_33, List.forall_mem_cons.mpr ⟨ti_34, List.forall_mem_cons.mpr ⟨ti_35, List.forall_mem_cons.mpr ⟨ti_36, List.forall_mem_cons.mpr ⟨ti_37, List.forall_mem_cons.mpr ⟨ti_38, List.forall_mem_cons.mpr ⟨ti_39, List.forall_mem_cons.mpr ⟨ti_40, List.forall_mem_cons.mpr ⟨ti_41, List.forall_mem_cons.mpr ⟨ti_42, List.forall_mem_cons.mpr ⟨ti_43, List.forall_mem_cons.mpr ⟨ti_44, List.forall_mem_cons.mpr ⟨ti_45, List.forall_mem_cons.mpr ⟨ti_46, List.forall_mem_cons.mpr ⟨ti_47, List.forall_mem_cons.mpr ⟨ti_48, List.forall_mem_cons.mpr ⟨ti_49, List.forall_mem_cons.mpr ⟨ti_50, List.forall_mem_cons.mpr ⟨ti_51, List.forall_mem_cons.mpr ⟨ti_52, List.forall_mem_cons.mpr ⟨ti_53, List.forall_mem_cons.mpr ⟨ti_54, List.forall_mem_cons.mpr ⟨ti_55, List.forall_mem_cons.mpr ⟨ti_56, List.forall_mem_cons.mpr ⟨ti_57, List.forall_mem_cons.mpr ⟨ti_58, List.forall_mem_cons.mpr ⟨ti_59, List.forall_mem_cons.mpr ⟨ti_60, List.forall_mem_cons.mpr ⟨ti_61, List.forall_mem_cons.mpr ⟨ti_62, List.forall_mem_cons.mpr ⟨ti_63, List.forall_mem_cons.mpr ⟨ti_64, List.forall_mem_cons.mpr ⟨ti_65, List.forall_mem_cons.mpr ⟨ti_66, List.forall_mem_cons.mpr ⟨ti_67, List.forall_mem_cons.mpr ⟨ti_68, List.forall_mem_cons.mpr ⟨ti_69, List.forall_mem_cons.mpr ⟨ti_70, List.forall_mem_cons.mpr ⟨ti_71, List.forall_mem_cons.mpr ⟨ti_72, List.forall_mem_cons.mpr ⟨ti_73, List.forall_mem_cons.mpr ⟨ti_74, List.forall_mem_cons.mpr ⟨ti_75, List.forall_mem_cons.mpr ⟨ti_76, List.forall_mem_cons.mpr ⟨ti_77, List.forall_mem_cons.mpr ⟨ti_78, List.forall_mem_cons.mpr ⟨ti_79, List.forall_mem_cons.mpr ⟨ti_80, List.forall_mem_cons.mpr ⟨ti_81, List.forall_mem_cons.mpr ⟨ti_82, List.forall_mem_cons.mpr ⟨ti_83, List.forall_mem_cons.mpr ⟨ti_84, List.forall_mem_cons.mpr ⟨ti_85, List.forall_mem_cons.mpr ⟨ti_86, List.forall_mem_cons.mpr ⟨ti_87, List.forall_mem_cons.mpr ⟨ti_88, List.forall_mem_cons.mpr ⟨ti_89, List.forall_mem_cons.mpr ⟨ti_90, List.forall_mem_cons.mpr ⟨ti_91, List.forall_mem_cons.mpr ⟨ti_92, List.forall_mem_cons.mpr ⟨ti_93, List.forall_mem_cons.mpr ⟨ti_94, List.forall_mem_cons.mpr ⟨ti_95, List.forall_mem_cons.mpr ⟨ti_96, List.forall_mem_cons.mpr ⟨ti_97, List.forall_mem_cons.mpr ⟨ti_98, List.forall_mem_cons.mpr ⟨ti_99, List.forall_mem_cons.mpr ⟨ti_100, List.forall_mem_cons.mpr ⟨ti_101, List.forall_mem_cons.mpr ⟨ti_102, List.forall_mem_cons.mpr ⟨ti_103, List.forall_mem_cons.mpr ⟨ti_104, List.forall_mem_cons.mpr ⟨ti_105, List.forall_mem_cons.mpr ⟨ti_106, List.forall_mem_cons.mpr ⟨ti_107, List.forall_mem_cons.mpr ⟨ti_108, List.forall_mem_cons.mpr ⟨ti_109, List.forall_mem_cons.mpr ⟨ti_110, List.forall_mem_cons.mpr ⟨ti_111, List.forall_mem_cons.mpr ⟨ti_112, List.forall_mem_cons.mpr ⟨ti_113, List.forall_mem_cons.mpr ⟨ti_114, List.forall_mem_cons.mpr ⟨ti_115, List.forall_mem_cons.mpr ⟨ti_116, List.forall_mem_cons.mpr ⟨ti_117, List.forall_mem_cons.mpr ⟨ti_118, List.forall_mem_cons.mpr ⟨ti_119, List.forall_mem_cons.mpr ⟨ti_120, List.forall_mem_cons.mpr ⟨ti_121, List.forall_mem_cons.mpr ⟨ti_122, List.forall_mem_cons.mpr ⟨ti_123, List.forall_mem_cons.mpr ⟨ti_124, List.forall_mem_cons.mpr ⟨ti_125, List.forall_mem_cons.mpr ⟨ti_126, List.forall_mem_cons.mpr ⟨ti_127, List.forall_mem_cons.mpr ⟨ti_128, List.forall_mem_cons.mpr ⟨ti_129, List.forall_mem_cons.mpr ⟨ti_130, List.forall_mem_cons.mpr ⟨ti_131, List.forall_mem_cons.mpr ⟨ti_132, List.forall_mem_cons.mpr ⟨ti_133, List.forall_mem_cons.mpr ⟨ti_134, List.forall_mem_cons.mpr ⟨ti_135, List.forall_mem_cons.mpr ⟨ti_136, List.forall_mem_cons.mpr ⟨ti_137, List.forall_mem_cons.mpr ⟨ti_138, List.forall_mem_cons.mpr ⟨ti_139, List.forall_mem_cons.mpr ⟨ti_140, List.forall_mem_cons.mpr ⟨ti_141, List.forall_mem_cons.mpr ⟨ti_142, List.forall_mem_cons.mpr ⟨ti_143, List.forall_mem_cons.mpr ⟨ti_144, List.forall_mem_cons.mpr ⟨ti_145, List.forall_mem_cons.mpr ⟨ti_146, List.forall_mem_cons.mpr ⟨ti_147, List.forall_mem_cons.mpr ⟨ti_148, List.forall_mem_cons.mpr ⟨ti_149, List.forall_mem_cons.mpr ⟨ti_150, List.forall_mem_cons.mpr ⟨ti_151, List.forall_mem_cons.mpr ⟨ti_152, List.forall_mem_cons.mpr ⟨ti_153, List.forall_mem_cons.mpr ⟨ti_154, List.forall_mem_cons.mpr ⟨ti_155, List.forall_mem_cons.mpr ⟨ti_156, List.forall_mem_cons.mpr ⟨ti_157, List.forall_mem_cons.mpr ⟨ti_158, List.forall_mem_cons.mpr ⟨ti_159, List.forall_mem_cons.mpr ⟨ti_160, List.forall_mem_cons.mpr ⟨ti_161, List.forall_mem_cons.mpr ⟨ti_162, List.forall_mem_cons.mpr ⟨ti_163, List.forall_mem_cons.mpr ⟨ti_164, List.forall_mem_cons.mpr ⟨ti_165, List.forall_mem_cons.mpr ⟨ti_166, List.forall_mem_cons.mpr ⟨ti_167, List.forall_mem_cons.mpr ⟨ti_168, List.forall_mem_cons.mpr ⟨ti_169, List.forall_mem_cons.mpr ⟨ti_170, List.forall_mem_cons.mpr ⟨ti_171, List.forall_mem_cons.mpr ⟨ti_172, List.forall_mem_cons.mpr ⟨ti_173, List.forall_mem_cons.mpr ⟨ti_174, List.forall_mem_cons.mpr ⟨ti_175, List.forall_mem_cons.mpr ⟨ti_176, List.forall_mem_cons.mpr ⟨ti_177, List.forall_mem_cons.mpr ⟨ti_178, List.forall_mem_cons.mpr ⟨ti_179, List.forall_mem_cons.mpr ⟨ti_180, List.forall_mem_cons.mpr ⟨ti_181, List.forall_mem_cons.mpr ⟨ti_182, List.forall_mem_cons.mpr ⟨ti_183, List.forall_mem_cons.mpr ⟨ti_184, List.forall_mem_cons.mpr ⟨ti_185, List.forall_mem_cons.mpr ⟨ti_186, List.forall_mem_cons.mpr ⟨ti_187, List.forall_mem_cons.mpr ⟨ti_188, List.forall_mem_cons.mpr ⟨ti_189, List.forall_mem_cons.mpr ⟨ti_190, List.forall_mem_cons.mpr ⟨ti_191, List.forall_mem_cons.mpr ⟨ti_192, List.forall_mem_cons.mpr ⟨ti_193, List.forall_mem_cons.mpr ⟨ti_194, List.forall_mem_cons.mpr ⟨ti_195, List.forall_mem_cons.mpr ⟨ti_196, List.forall_mem_cons.mpr ⟨ti_197, List.forall_mem_cons.mpr ⟨ti_198, List.forall_mem_cons.mpr ⟨ti_199, List.forall_mem_cons.mpr ⟨ti_200, List.forall_mem_cons.mpr ⟨ti_201, List.forall_mem_cons.mpr ⟨ti_202, List.forall_mem_cons.mpr ⟨ti_203, List.forall_mem_cons.mpr ⟨ti_204, List.forall_mem_cons.mpr ⟨ti_205, List.forall_mem_cons.mpr ⟨ti_206, List.forall_mem_cons.mpr ⟨ti_207, List.forall_mem_cons.mpr ⟨ti_208, List.forall_mem_cons.mpr ⟨ti_209, List.forall_mem_cons.mpr ⟨ti_210, List.forall_mem_cons.mpr ⟨ti_211, List.forall_mem_cons.mpr ⟨ti_212, List.forall_mem_cons.mpr ⟨ti_213, List.forall_mem_cons.mpr ⟨ti_214, List.forall_mem_cons.mpr ⟨ti_215, List.forall_mem_cons.mpr ⟨ti_216, List.forall_mem_cons.mpr ⟨ti_217, List.forall_mem_cons.mpr ⟨ti_218, List.forall_mem_cons.mpr ⟨ti_219, List.forall_mem_cons.mpr ⟨ti_220, List.forall_mem_cons.mpr ⟨ti_221, List.forall_mem_cons.mpr ⟨ti_222, List.forall_mem_cons.mpr ⟨ti_223, List.forall_mem_cons.mpr ⟨ti_224, List.forall_mem_cons.mpr ⟨ti_225, List.forall_mem_cons.mpr ⟨ti_226, List.forall_mem_cons.mpr ⟨ti_227, List.forall_mem_cons.mpr ⟨ti_228, List.forall_mem_cons.mpr ⟨ti_229, List.forall_mem_cons.mpr ⟨ti_230, List.forall_mem_cons.mpr ⟨ti_231, List.forall_mem_cons.mpr ⟨ti_232, List.forall_mem_cons.mpr ⟨ti_233, List.forall_mem_cons.mpr ⟨ti_234, List.forall_mem_cons.mpr ⟨ti_235, List.forall_mem_cons.mpr ⟨ti_236, List.forall_mem_cons.mpr ⟨ti_237, List.forall_mem_cons.mpr ⟨ti_238, List.forall_mem_cons.mpr ⟨ti_239, List.forall_mem_cons.mpr ⟨ti_240, List.forall_mem_cons.mpr ⟨ti_241, List.forall_mem_cons.mpr ⟨ti_242, List.forall_mem_cons.mpr ⟨ti_243, List.forall_mem_cons.mpr ⟨ti_244, List.forall_mem_cons.mpr ⟨ti_245, List.forall_mem_cons.mpr ⟨ti_246, List.forall_mem_cons.mpr ⟨ti_247, List.forall_mem_cons.mpr ⟨ti_248, List.forall_mem_cons.mpr ⟨ti_249, List.forall_mem_cons.mpr ⟨ti_250, List.forall_mem_cons.mpr ⟨ti_251, List.forall_mem_cons.mpr ⟨ti_252, List.forall_mem_cons.mpr ⟨ti_253, List.forall_mem_cons.mpr ⟨ti_254, List.forall_mem_cons.mpr ⟨ti_255, List.forall_mem_cons.mpr ⟨ti_256, List.forall_mem_cons.mpr ⟨ti_257, List.forall_mem_cons.mpr ⟨ti_258, List.forall_mem_cons.mpr ⟨ti_259, List.forall_mem_cons.mpr ⟨ti_260, List.forall_mem_cons.mpr ⟨ti_261, List.forall_mem_cons.mpr ⟨ti_262, List.forall_mem_cons.mpr ⟨ti_263, List.forall_mem_cons.mpr ⟨ti_264, List.forall_mem_cons.mpr ⟨ti_265, List.forall_mem_cons.mpr ⟨ti_266, List.forall_mem_cons.mpr ⟨ti_267, List.forall_mem_cons.mpr ⟨ti_268, List.forall_mem_cons.mpr ⟨ti_269, List.forall_mem_cons.mpr ⟨ti_270, List.forall_mem_cons.mpr ⟨ti_271, List.forall_mem_cons.mpr ⟨ti_272, List.forall_mem_cons.mpr ⟨ti_273, List.forall_mem_cons.mpr ⟨ti_274, List.forall_mem_cons.mpr ⟨ti_275, List.forall_mem_cons.mpr ⟨ti_276, List.forall_mem_cons.mpr ⟨ti_277, List.forall_mem_cons.mpr ⟨ti_278, List.forall_mem_cons.mpr ⟨ti_279, List.forall_mem_cons.mpr ⟨ti_280, List.forall_mem_cons.mpr ⟨ti_281, List.forall_mem_cons.mpr ⟨ti_282, List.forall_mem_cons.mpr ⟨ti_283, List.forall_mem_cons.mpr ⟨ti_284, List.forall_mem_cons.mpr ⟨ti_285, List.forall_mem_cons.mpr ⟨ti_286, List.forall_mem_cons.mpr ⟨ti_287, List.forall_mem_cons.mpr ⟨ti_288, List.forall_mem_cons.mpr ⟨ti_289, List.forall_mem_cons.mpr ⟨ti_290, List.forall_mem_cons.mpr ⟨ti_291, List.forall_mem_cons.mpr ⟨ti_292, List.forall_mem_cons.mpr ⟨ti_293, List.forall_mem_cons.mpr ⟨ti_294, List.forall_mem_cons.mpr ⟨ti_295, List.forall_mem_cons.mpr ⟨ti_296, List.forall_mem_cons.mpr ⟨ti_297, List.forall_mem_cons.mpr ⟨ti_298, List.forall_mem_cons.mpr ⟨ti_299, List.forall_mem_cons.mpr ⟨ti_300, List.forall_mem_cons.mpr ⟨ti_301, List.forall_mem_cons.mpr ⟨ti_302, List.forall_mem_cons.mpr ⟨ti_303, List.forall_mem_cons.mpr ⟨ti_304, List.forall_mem_cons.mpr ⟨ti_305, List.forall_mem_cons.mpr ⟨ti_306, List.forall_mem_cons.mpr ⟨ti_307, List.forall_mem_cons.mpr ⟨ti_308, List.forall_mem_cons.mpr ⟨ti_309, List.forall_mem_cons.mpr ⟨ti_310, List.forall_mem_cons.mpr ⟨ti_311, List.forall_mem_cons.mpr ⟨ti_312, List.forall_mem_cons.mpr ⟨ti_313, List.forall_mem_cons.mpr ⟨ti_314, List.forall_mem_cons.mpr ⟨ti_315, List.forall_mem_cons.mpr ⟨ti_316, List.forall_mem_cons.mpr ⟨ti_317, List.forall_mem_cons.mpr ⟨ti_318, List.forall_mem_cons.mpr ⟨ti_319, List.forall_mem_cons.mpr ⟨ti_320, List.forall_mem_cons.mpr ⟨ti_321, List.forall_mem_cons.mpr ⟨ti_322, List.forall_mem_cons.mpr ⟨ti_323, List.forall_mem_cons.mpr ⟨ti_324, List.forall_mem_cons.mpr ⟨ti_325, List.forall_mem_cons.mpr ⟨ti_326, List.forall_mem_cons.mpr ⟨ti_327, List.forall_mem_cons.mpr ⟨ti_328, List.forall_mem_cons.mpr ⟨ti_329, List.forall_mem_cons.mpr ⟨ti_330, List.forall_mem_cons.mpr ⟨ti_331, List.forall_mem_cons.mpr ⟨ti_332, List.forall_mem_cons.mpr ⟨ti_333, List.forall_mem_cons.mpr ⟨ti_334, List.forall_mem_cons.mpr ⟨ti_335, List.forall_mem_cons.mpr ⟨ti_336, List.forall_mem_cons.mpr ⟨ti_337, List.forall_mem_cons.mpr ⟨ti_338, List.forall_mem_cons.mpr ⟨ti_339, List.forall_mem_cons.mpr ⟨ti_340, List.forall_mem_cons.mpr ⟨ti_341, List.forall_mem_cons.mpr ⟨ti_342, List.forall_mem_cons.mpr ⟨ti_343, List.forall_mem_cons.mpr ⟨ti_344, List.forall_mem_cons.mpr ⟨ti_345, List.forall_mem_cons.mpr ⟨ti_346, List.forall_mem_cons.mpr ⟨ti_347, List.forall_mem_cons.mpr ⟨ti_348, List.forall_mem_cons.mpr ⟨ti_349, List.forall_mem_cons.mpr ⟨ti_350, List.forall_mem_cons.mpr ⟨ti_351, List.forall_mem_cons.mpr ⟨ti_352, List.forall_mem_cons.mpr ⟨ti_353, List.forall_mem_cons.mpr ⟨ti_354, List.forall_mem_cons.mpr ⟨ti_355, List.forall_mem_cons.mpr ⟨ti_356, List.forall_mem_cons.mpr ⟨ti_357, List.forall_mem_cons.mpr ⟨ti_358, List.forall_mem_cons.mpr ⟨ti_359, List.forall_mem_cons.mpr ⟨ti_360, List.forall_mem_cons.mpr ⟨ti_361, List.forall_mem_cons.mpr ⟨ti_362, List.forall_mem_cons.mpr ⟨ti_363, List.forall_mem_cons.mpr ⟨ti_364, List.forall_mem_cons.mpr ⟨ti_365, List.forall_mem_cons.mpr ⟨ti_366, List.forall_mem_cons.mpr ⟨ti_367, List.forall_mem_cons.mpr ⟨ti_368, List.forall_mem_cons.mpr ⟨ti_369, List.forall_mem_cons.mpr ⟨ti_370, List.forall_mem_cons.mpr ⟨ti_371, List.forall_mem_cons.mpr ⟨ti_372, List.forall_mem_cons.mpr ⟨ti_373, List.forall_mem_cons.mpr ⟨ti_374, List.forall_mem_cons.mpr ⟨ti_375, List.forall_mem_cons.mpr ⟨ti_376, List.forall_mem_cons.mpr ⟨ti_377, List.forall_mem_cons.mpr ⟨ti_378, List.forall_mem_cons.mpr ⟨ti_379, List.forall_mem_cons.mpr ⟨ti_380, List.forall_mem_cons.mpr ⟨ti_381, List.forall_mem_cons.mpr ⟨ti_382, List.forall_mem_cons.mpr ⟨ti_383, List.forall_mem_cons.mpr ⟨ti_384, List.forall_mem_cons.mpr ⟨ti_385, List.forall_mem_cons.mpr ⟨ti_386, List.forall_mem_cons.mpr ⟨ti_387, List.forall_mem_cons.mpr ⟨ti_388, List.forall_mem_cons.mpr ⟨ti_389, List.forall_mem_cons.mpr ⟨ti_390, List.forall_mem_cons.mpr ⟨ti_391, List.forall_mem_cons.mpr ⟨ti_392, List.forall_mem_cons.mpr ⟨ti_393, List.forall_mem_cons.mpr ⟨ti_394, List.forall_mem_cons.mpr ⟨ti_395, List.forall_mem_cons.mpr ⟨ti_396, List.forall_mem_cons.mpr ⟨ti_397, List.forall_mem_cons.mpr ⟨ti_398, List.forall_mem_cons.mpr ⟨ti_399, List.forall_mem_cons.mpr ⟨ti_400, List.forall_mem_cons.mpr ⟨ti_401, List.forall_mem_cons.mpr ⟨ti_402, List.forall_mem_cons.mpr ⟨ti_403, List.forall_mem_cons.mpr ⟨ti_404, List.forall_mem_cons.mpr ⟨ti_405, List.forall_mem_cons.mpr ⟨ti_406, List.forall_mem_cons.mpr ⟨ti_407, List.forall_mem_cons.mpr ⟨ti_408, List.forall_mem_cons.mpr ⟨ti_409, List.forall_mem_cons.mpr ⟨ti_410, List.forall_mem_cons.mpr ⟨ti_411, List.forall_mem_cons.mpr ⟨ti_412, List.forall_mem_cons.mpr ⟨ti_413, List.forall_mem_cons.mpr ⟨ti_414, List.forall_mem_cons.mpr ⟨ti_415, List.forall_mem_cons.mpr ⟨ti_416, List.forall_mem_cons.mpr ⟨ti_417, List.forall_mem_cons.mpr ⟨ti_418, List.forall_mem_cons.mpr ⟨ti_419, List.forall_mem_cons.mpr ⟨ti_420, List.forall_mem_cons.mpr ⟨ti_421, List.forall_mem_cons.mpr ⟨ti_422, List.forall_mem_cons.mpr ⟨ti_423, List.forall_mem_cons.mpr ⟨ti_424, List.forall_mem_cons.mpr ⟨ti_425, List.forall_mem_cons.mpr ⟨ti_426, List.forall_mem_cons.mpr ⟨ti_427, List.forall_mem_cons.mpr ⟨ti_428, List.forall_mem_cons.mpr ⟨ti_429, List.forall_mem_cons.mpr ⟨ti_430, List.forall_mem_cons.mpr ⟨ti_431, List.forall_mem_cons.mpr ⟨ti_432, List.forall_mem_cons.mpr ⟨ti_433, List.forall_mem_cons.mpr ⟨ti_434, List.forall_mem_cons.mpr ⟨ti_435, List.forall_mem_cons.mpr ⟨ti_436, List.forall_mem_cons.mpr ⟨ti_437, List.forall_mem_cons.mpr ⟨ti_438, List.forall_mem_cons.mpr ⟨ti_439, List.forall_mem_cons.mpr ⟨ti_440, List.forall_mem_cons.mpr ⟨ti_441, List.forall_mem_cons.mpr ⟨ti_442, List.forall_mem_cons.mpr ⟨ti_443, List.forall_mem_cons.mpr ⟨ti_444, List.forall_mem_cons.mpr ⟨ti_445, List.forall_mem_cons.mpr ⟨ti_446, List.forall_mem_cons.mpr ⟨ti_447, List.forall_mem_cons.mpr ⟨ti_448, List.forall_mem_cons.mpr ⟨ti_449, List.forall_mem_cons.mpr ⟨ti_450, List.forall_mem_cons.mpr ⟨ti_451, List.forall_mem_cons.mpr ⟨ti_452, List.forall_mem_cons.mpr ⟨ti_453, List.forall_mem_cons.mpr ⟨ti_454, List.forall_mem_cons.mpr ⟨ti_455, List.forall_mem_cons.mpr ⟨ti_456, List.forall_mem_cons.mpr ⟨ti_457, List.forall_mem_cons.mpr ⟨ti_458, List.forall_mem_cons.mpr ⟨ti_459, List.forall_mem_cons.mpr ⟨ti_460, List.forall_mem_cons.mpr ⟨ti_461, List.forall_mem_cons.mpr ⟨ti_462, List.forall_mem_cons.mpr ⟨ti_463, List.forall_mem_cons.mpr ⟨ti_464, List.forall_mem_cons.mpr ⟨ti_465, List.forall_mem_cons.mpr ⟨ti_466, List.forall_mem_cons.mpr ⟨ti_467, List.forall_mem_cons.mpr ⟨ti_468, List.forall_mem_cons.mpr ⟨ti_469, List.forall_mem_cons.mpr ⟨ti_470, List.forall_mem_cons.mpr ⟨ti_471, List.forall_mem_cons.mpr ⟨ti_472, List.forall_mem_cons.mpr ⟨ti_473, List.forall_mem_cons.mpr ⟨ti_474, List.forall_mem_cons.mpr ⟨ti_475, List.forall_mem_cons.mpr ⟨ti_476, List.forall_mem_cons.mpr ⟨ti_477, List.forall_mem_cons.mpr ⟨ti_478, List.forall_mem_cons.mpr ⟨ti_479, List.forall_mem_cons.mpr ⟨ti_480, List.forall_mem_cons.mpr ⟨ti_481, List.forall_mem_cons.mpr ⟨ti_482, List.forall_mem_cons.mpr ⟨ti_483, List.forall_mem_cons.mpr ⟨ti_484, List.forall_mem_cons.mpr ⟨ti_485, List.forall_mem_cons.mpr ⟨ti_486, List.forall_mem_cons.mpr ⟨ti_487, List.forall_mem_cons.mpr ⟨ti_488, List.forall_mem_cons.mpr ⟨ti_489, List.forall_mem_cons.mpr ⟨ti_490, List.forall_mem_cons.mpr ⟨ti_491, List.forall_mem_cons.mpr ⟨ti_492, List.forall_mem_cons.mpr ⟨ti_493, List.forall_mem_cons.mpr ⟨ti_494, List.forall_mem_cons.mpr ⟨ti_495, List.forall_mem_cons.mpr ⟨ti_496, List.forall_mem_cons.mpr ⟨ti_497, List.forall_mem_cons.mpr ⟨ti_498, List.forall_mem_cons.mpr ⟨ti_499, List.forall_mem_cons.mpr ⟨ti_500, List.forall_mem_cons.mpr ⟨ti_501, List.forall_mem_cons.mpr ⟨ti_502, List.forall_mem_cons.mpr ⟨ti_503, List.forall_mem_cons.mpr ⟨ti_504, List.forall_mem_cons.mpr ⟨ti_505, List.forall_mem_cons.mpr ⟨ti_506, List.forall_mem_cons.mpr ⟨ti_507, List.forall_mem_cons.mpr ⟨ti_508, List.forall_mem_cons.mpr ⟨ti_509, List.forall_mem_cons.mpr ⟨ti_510, List.forall_mem_cons.mpr ⟨ti_511, List.forall_mem_cons.mpr ⟨ti_512, List.forall_mem_cons.mpr ⟨ti_513, List.forall_mem_cons.mpr ⟨ti_514, List.forall_mem_cons.mpr ⟨ti_515, List.forall_mem_cons.mpr ⟨ti_516, List.forall_mem_cons.mpr ⟨ti_517, List.forall_mem_cons.mpr ⟨ti_518, List.forall_mem_cons.mpr ⟨ti_519, List.forall_mem_cons.mpr ⟨ti_520, List.forall_mem_cons.mpr ⟨ti_521, List.forall_mem_cons.mpr ⟨ti_522, List.forall_mem_cons.mpr ⟨ti_523, List.forall_mem_cons.mpr ⟨ti_524, List.forall_mem_cons.mpr ⟨ti_525, List.forall_mem_cons.mpr ⟨ti_526, List.forall_mem_cons.mpr ⟨ti_527, List.forall_mem_cons.mpr ⟨ti_528, List.forall_mem_cons.mpr ⟨ti_529, List.forall_mem_cons.mpr ⟨ti_530, List.forall_mem_cons.mpr ⟨ti_531, List.forall_mem_cons.mpr ⟨ti_532, List.forall_mem_cons.mpr ⟨ti_533, List.forall_mem_cons.mpr ⟨ti_534, List.forall_mem_cons.mpr ⟨ti_535, List.forall_mem_cons.mpr ⟨ti_536, List.forall_mem_cons.mpr ⟨ti_537, fun _ h => absurd h List.not_mem_nil⟩⟩⟩⟩⟩⟩⟩⟩⟩⟩⟩⟩⟩⟩⟩⟩⟩⟩⟩⟩⟩⟩⟩⟩⟩⟩⟩⟩⟩⟩⟩⟩⟩⟩⟩⟩⟩⟩⟩⟩⟩⟩⟩⟩⟩⟩⟩⟩⟩⟩⟩⟩⟩⟩⟩⟩⟩⟩⟩⟩⟩⟩⟩⟩⟩⟩⟩⟩⟩⟩⟩⟩⟩⟩⟩⟩⟩⟩⟩⟩⟩⟩⟩⟩⟩⟩⟩⟩⟩⟩⟩⟩⟩⟩⟩⟩⟩⟩⟩⟩⟩⟩⟩⟩⟩⟩⟩⟩⟩⟩⟩⟩⟩⟩⟩⟩⟩⟩⟩⟩⟩⟩⟩⟩⟩⟩⟩⟩⟩⟩⟩⟩⟩⟩⟩⟩⟩⟩⟩⟩⟩⟩⟩⟩⟩⟩⟩⟩⟩⟩⟩⟩⟩⟩⟩⟩⟩⟩⟩⟩⟩⟩⟩⟩⟩⟩⟩⟩⟩⟩⟩⟩⟩⟩⟩⟩⟩⟩⟩⟩⟩⟩⟩⟩⟩⟩⟩⟩⟩⟩⟩⟩⟩⟩⟩⟩⟩⟩⟩⟩⟩⟩⟩⟩⟩⟩⟩⟩⟩⟩⟩⟩⟩⟩⟩⟩⟩⟩⟩⟩⟩⟩⟩⟩⟩⟩⟩⟩⟩⟩⟩⟩⟩⟩⟩⟩⟩⟩⟩⟩⟩⟩⟩⟩⟩⟩⟩⟩⟩⟩⟩⟩⟩⟩⟩⟩⟩⟩⟩⟩⟩⟩⟩⟩⟩⟩⟩⟩⟩⟩⟩⟩⟩⟩⟩⟩⟩⟩⟩⟩⟩⟩⟩⟩⟩⟩⟩⟩⟩⟩⟩⟩⟩⟩⟩⟩⟩⟩⟩⟩⟩⟩⟩⟩⟩⟩⟩⟩⟩⟩⟩⟩⟩⟩⟩⟩⟩⟩⟩⟩⟩⟩⟩⟩⟩⟩⟩⟩⟩⟩⟩⟩⟩⟩⟩⟩⟩⟩⟩⟩⟩⟩⟩⟩⟩⟩⟩⟩⟩⟩⟩⟩⟩⟩⟩⟩⟩⟩⟩⟩⟩⟩⟩⟩⟩⟩⟩⟩⟩⟩⟩⟩⟩⟩⟩⟩⟩⟩⟩⟩⟩⟩⟩⟩⟩⟩⟩⟩⟩⟩⟩⟩⟩⟩⟩⟩⟩⟩⟩⟩⟩⟩⟩⟩⟩⟩⟩⟩⟩⟩⟩⟩⟩⟩⟩⟩⟩⟩⟩⟩⟩⟩⟩⟩⟩⟩⟩⟩⟩⟩⟩⟩⟩⟩⟩⟩⟩⟩⟩⟩⟩⟩⟩⟩⟩⟩⟩⟩⟩⟩⟩⟩⟩⟩⟩⟩⟩⟩⟩⟩⟩⟩⟩⟩⟩⟩⟩⟩⟩⟩⟩⟩⟩⟩⟩⟩⟩⟩⟩⟩⟩⟩⟩⟩⟩⟩⟩⟩⟩⟩⟩⟩⟩⟩⟩⟩⟩⟩⟩⟩⟩⟩⟩⟩⟩⟩⟩⟩⟩⟩⟩⟩⟩⟩⟩⟩⟩⟩⟩⟩⟩⟩⟩⟩⟩⟩⟩⟩⟩⟩⟩⟩⟩⟩⟩⟩⟩⟩
theorem TG_all : TG.all goodWord = true := by decide +kernel
theorem TG_good : ∀ w ∈ TG, (w.onTables && w.keeps) = true ∨ ∃ ty, w = .arrayClass ty := fun w h => good_of_word (List.all_eq_true.mp TG_all w h)
theorem i_V : ∀ w ∈ u_ws "PageVault" F_V 4, w ∈ TG := by decide +kernel
theorem i_F : ∀ w ∈ u_ws "PageVault$Frames" F_F 3, w ∈ TG := by decide +kernel
theorem i_S : ∀ w ∈ u_ws "PageVault$Space" F_S 3, w ∈ TG := by decide +kernel
theorem i_M : ∀ w ∈ u_ws "PageVaultModel" F_M 19, w ∈ TG := by decide +kernel
/-- links across the nest: they are carried, not read off the words -/
def NL : List Cond := ([.methodLinkNest "PageVault$Space" 78 y_V_frameOf "PageVault", .methodLinkNest "PageVault$Space" 72 y_V_entryOf "PageVault", .methodLinkNest "PageVault$Space" 85 y_V_flagsOf "PageVault"] : List Cond)
theorem nl_0 : (.methodLinkNest "PageVault$Space" 78 y_V_frameOf "PageVault" : Cond) ∈ NL := List.mem_of_getElem? (i := 0) rfl
theorem nl_1 : (.methodLinkNest "PageVault$Space" 72 y_V_entryOf "PageVault" : Cond) ∈ NL := List.mem_of_getElem? (i := 1) rfl
theorem nl_2 : (.methodLinkNest "PageVault$Space" 85 y_V_flagsOf "PageVault" : Cond) ∈ NL := List.mem_of_getElem? (i := 2) rfl
theorem NL_in : ∀ w ∈ NL, w ∈ lw_tbl := by decide +kernel
theorem NL_t : ∀ w ∈ NL, w.onTables = true := by decide +kernel
theorem NL_warm {s U : State} (hW : s.WarmedH U.vm) : ∀ w ∈ NL, va_Nw w s → va_Nw w U := by
  intro w hw h
  simp only [NL, List.mem_cons, List.not_mem_nil, or_false] at hw
  rcases hw with rfl | rfl | rfl <;> exact va_Nw.warmM hW h
