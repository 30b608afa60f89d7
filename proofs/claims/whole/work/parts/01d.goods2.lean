set_option maxRecDepth 20000 in
theorem ggX4_sync_X2_putAllOnDisk : GoodIn wsX4_sync wsX2_putAllOnDisk := goodIn_r _ [76, 43, 77, 18, 78, 79, 80, 6, 81, 44, 13, 34, 82, 83, 84, 23, 85, 86, 87, 88, 89, 25, 57, 53, 54, 55, 56, 45, 46, 47, 48, 95, 96, 97, 98, 99, 100, 101, 102, 103, 104, 105, 106, 107, 108] (by decide +kernel) (by decide +kernel)
set_option maxRecDepth 20000 in
theorem gX4_sync_X2_putAllOnDisk : GoodIn wsX4_sync (wsV RX4 89 RX2 yX2_putAllOnDisk wsX2_putAllOnDisk) := goodIn_app (goodIn_of _ (by decide +kernel)) ggX4_sync_X2_putAllOnDisk
set_option maxRecDepth 20000 in
theorem ggX4_checkpoint_X0_openBits : GoodIn wsX4_checkpoint wsX0_openBits := goodIn_r _ [8, 9, 114, 115, 116, 117] (by decide +kernel) (by decide +kernel)
set_option maxRecDepth 20000 in
theorem gX4_checkpoint_X0_openBits : GoodIn wsX4_checkpoint (wsV RX4 92 RX0 yX0_openBits wsX0_openBits) := goodIn_app (goodIn_of _ (by decide +kernel)) ggX4_checkpoint_X0_openBits
set_option maxRecDepth 20000 in
theorem ggX4_checkpoint_X0_pagesDue : GoodIn wsX4_checkpoint wsX0_pagesDue := goodIn_r _ [13, 14, 114, 115, 116, 117] (by decide +kernel) (by decide +kernel)
set_option maxRecDepth 20000 in
theorem gX4_checkpoint_X0_pagesDue : GoodIn wsX4_checkpoint (wsV RX4 95 RX0 yX0_pagesDue wsX0_pagesDue) := goodIn_app (goodIn_of _ (by decide +kernel)) ggX4_checkpoint_X0_pagesDue
set_option maxRecDepth 20000 in
theorem ggX4_checkpoint_X2_logsDue : GoodIn wsX4_checkpoint wsX2_logsDue := goodIn_r _ [19, 20, 118, 119, 120, 121, 122, 123, 124, 125, 126, 127, 128, 129] (by decide +kernel) (by decide +kernel)
set_option maxRecDepth 20000 in
theorem gX4_checkpoint_X2_logsDue : GoodIn wsX4_checkpoint (wsV RX4 80 RX2 yX2_logsDue wsX2_logsDue) := goodIn_app (goodIn_of _ (by decide +kernel)) ggX4_checkpoint_X2_logsDue
set_option maxRecDepth 20000 in
theorem ggX4_checkpoint_X2_hasRoom : GoodIn wsX4_checkpoint wsX2_hasRoom := goodIn_r _ [24, 25, 26, 27, 28, 18, 29, 30, 31, 32, 33, 34, 35, 36, 37, 38, 39, 40, 41, 118, 119, 120, 121, 122, 123, 124, 125, 126, 127, 128, 129, 130, 131] (by decide +kernel) (by decide +kernel)
set_option maxRecDepth 20000 in
theorem gX4_checkpoint_X2_hasRoom : GoodIn wsX4_checkpoint (wsV RX4 83 RX2 yX2_hasRoom wsX2_hasRoom) := goodIn_app (goodIn_of _ (by decide +kernel)) ggX4_checkpoint_X2_hasRoom
set_option maxRecDepth 20000 in
theorem ggX4_checkpoint_X2_writeLog : GoodIn wsX4_checkpoint wsX2_writeLog := goodIn_r _ [45, 20, 46, 31, 47, 48, 49, 50, 51, 52, 53, 18, 54, 25, 55, 56, 57, 58, 59, 35, 60, 37, 61, 62, 63, 64, 65, 66, 67, 68, 69, 70, 71, 72, 73, 74, 75, 76, 77, 78, 79, 80, 81, 82, 83, 84, 118, 119, 120, 121, 122, 123, 124, 125, 126, 127, 128, 129, 130, 131] (by decide +kernel) (by decide +kernel)
set_option maxRecDepth 20000 in
theorem gX4_checkpoint_X2_writeLog : GoodIn wsX4_checkpoint (wsV RX4 86 RX2 yX2_writeLog wsX2_writeLog) := goodIn_app (goodIn_of _ (by decide +kernel)) ggX4_checkpoint_X2_writeLog
set_option maxRecDepth 20000 in
theorem ggX4_checkpoint_X2_writePages : GoodIn wsX4_checkpoint wsX2_writePages := goodIn_r _ [88, 31, 89, 46, 90, 91, 92, 7, 93, 94, 95, 96, 97, 14, 51, 52, 53, 18, 54, 47, 25, 55, 56, 57, 58, 59, 35, 60, 37, 98, 99, 100, 101, 61, 62, 63, 64, 65, 66, 67, 68, 69, 70, 71, 72, 73, 74, 102, 103, 104, 105, 106, 107, 108, 75, 76, 77, 78, 79, 80, 81, 82, 83, 84, 118, 119, 120, 121, 122, 123, 124, 125, 126, 127, 128, 129, 114, 115, 116, 117, 130, 131] (by decide +kernel) (by decide +kernel)
set_option maxRecDepth 20000 in
theorem gX4_checkpoint_X2_writePages : GoodIn wsX4_checkpoint (wsV RX4 98 RX2 yX2_writePages wsX2_writePages) := goodIn_app (goodIn_of _ (by decide +kernel)) ggX4_checkpoint_X2_writePages
set_option maxRecDepth 20000 in
theorem ggX4_cut_X2_waiting : GoodIn wsX4_cut wsX2_waiting := goodIn_r _ [8, 9, 60, 61, 62, 63, 64, 65, 66, 67, 68, 69, 70, 71] (by decide +kernel) (by decide +kernel)
set_option maxRecDepth 20000 in
theorem gX4_cut_X2_waiting : GoodIn wsX4_cut (wsV RX4 102 RX2 yX2_waiting wsX2_waiting) := goodIn_app (goodIn_of _ (by decide +kernel)) ggX4_cut_X2_waiting
set_option maxRecDepth 20000 in
theorem ggX4_cut_X2_loseMemory : GoodIn wsX4_cut wsX2_loseMemory := goodIn_r _ [13, 9, 14, 15, 16, 17, 18, 7, 19, 20, 21, 22, 23, 24, 25, 26, 27, 28, 29, 30, 31, 32, 33, 34, 35, 36, 37, 38, 39, 40, 41, 42, 43, 44, 45, 60, 61, 62, 63, 64, 65, 66, 67, 68, 69, 70, 71, 72, 73] (by decide +kernel) (by decide +kernel)
set_option maxRecDepth 20000 in
theorem gX4_cut_X2_loseMemory : GoodIn wsX4_cut (wsV RX4 105 RX2 yX2_loseMemory wsX2_loseMemory) := goodIn_app (goodIn_of _ (by decide +kernel)) ggX4_cut_X2_loseMemory
set_option maxRecDepth 20000 in
theorem ggX4_cut_X0_clear : GoodIn wsX4_cut wsX0_clear := goodIn_r _ [50, 51, 52, 53, 54, 74, 75, 76, 77] (by decide +kernel) (by decide +kernel)
set_option maxRecDepth 20000 in
theorem gX4_cut_X0_clear : GoodIn wsX4_cut (wsV RX4 109 RX0 yX0_clear wsX0_clear) := goodIn_app (goodIn_of _ (by decide +kernel)) ggX4_cut_X0_clear
set_option maxRecDepth 20000 in
theorem ggX4_start_X1_findCheckpoint : GoodIn wsX4_start wsX1_findCheckpoint := goodIn_r _ [11, 12, 13, 14, 15, 16, 10, 17, 18, 19, 20, 21, 22, 23, 24, 25, 26, 27, 28, 29, 30, 31, 32, 33, 34, 35, 36, 37, 38, 39, 40, 41, 42, 43, 44, 45, 46, 47, 48, 49, 50, 51, 52, 53, 54, 55, 56, 57, 58, 59, 60, 61, 62, 63, 64, 65, 66, 67, 68, 69, 70, 71, 72, 73, 74, 191, 192, 193, 194, 195, 196] (by decide +kernel) (by decide +kernel)
set_option maxRecDepth 20000 in
theorem gX4_start_X1_findCheckpoint : GoodIn wsX4_start (wsV RX4 116 RX1 yX1_findCheckpoint wsX1_findCheckpoint) := goodIn_app (goodIn_of _ (by decide +kernel)) ggX4_start_X1_findCheckpoint
set_option maxRecDepth 20000 in
theorem ggX4_start_X1_readPages : GoodIn wsX4_start wsX1_readPages := goodIn_r _ [78, 13, 12, 79, 80, 81, 10, 82, 22, 23, 24, 25, 26, 27, 28, 83, 43, 44, 45, 41, 84, 85, 86, 87, 88, 89, 32, 30, 33, 67, 68, 69, 70, 191, 192, 193, 194, 195, 196, 197, 198, 199, 200] (by decide +kernel) (by decide +kernel)
set_option maxRecDepth 20000 in
theorem gX4_start_X1_readPages : GoodIn wsX4_start (wsV RX4 120 RX1 yX1_readPages wsX1_readPages) := goodIn_app (goodIn_of _ (by decide +kernel)) ggX4_start_X1_readPages
set_option maxRecDepth 20000 in
theorem ggX4_start_X1_goOverRun : GoodIn wsX4_start wsX1_goOverRun := goodIn_r _ [93, 79, 51, 52, 53, 25, 54, 27, 67, 68, 69, 70, 59, 60, 61, 10, 62, 18, 63, 64, 65, 66, 42, 43, 44, 45, 41, 23, 24, 26, 28, 22, 94, 95, 96, 83, 97, 98, 99, 87, 100, 101, 102, 103, 29, 30, 31, 32, 33, 104, 105, 106, 107, 89, 108, 109, 110, 111, 191, 192, 193, 194, 195, 196, 197, 198, 199, 200] (by decide +kernel) (by decide +kernel)
set_option maxRecDepth 20000 in
theorem gX4_start_X1_goOverRun : GoodIn wsX4_start (wsV RX4 124 RX1 yX1_goOverRun wsX1_goOverRun) := goodIn_app (goodIn_of _ (by decide +kernel)) ggX4_start_X1_goOverRun
set_option maxRecDepth 20000 in
theorem ggX4_start_X1_firstPage : GoodIn wsX4_start wsX1_firstPage := goodIn_r _ [115, 13, 191, 192, 193, 194] (by decide +kernel) (by decide +kernel)
set_option maxRecDepth 20000 in
theorem gX4_start_X1_firstPage : GoodIn wsX4_start (wsV RX4 127 RX1 yX1_firstPage wsX1_firstPage) := goodIn_app (goodIn_of _ (by decide +kernel)) ggX4_start_X1_firstPage
set_option maxRecDepth 20000 in
theorem ggX4_start_X1_runEnd : GoodIn wsX4_start wsX1_runEnd := goodIn_r _ [119, 79, 191, 192, 193, 194] (by decide +kernel) (by decide +kernel)
set_option maxRecDepth 20000 in
theorem gX4_start_X1_runEnd : GoodIn wsX4_start (wsV RX4 130 RX1 yX1_runEnd wsX1_runEnd) := goodIn_app (goodIn_of _ (by decide +kernel)) ggX4_start_X1_runEnd
set_option maxRecDepth 20000 in
theorem ggX4_start_X2_goOn : GoodIn wsX4_start wsX2_goOn := goodIn_r _ [124, 125, 126, 127, 128, 129, 64, 65, 25, 66, 42, 43, 44, 45, 41, 23, 24, 26, 27, 28, 179, 180, 181, 182, 183, 184, 185, 186, 187, 188, 189, 190, 195, 196] (by decide +kernel) (by decide +kernel)
set_option maxRecDepth 20000 in
theorem gX4_start_X2_goOn : GoodIn wsX4_start (wsV RX4 133 RX2 yX2_goOn wsX2_goOn) := goodIn_app (goodIn_of _ (by decide +kernel)) ggX4_start_X2_goOn
set_option maxRecDepth 20000 in
theorem ggX4_start_X4_undoAllOpen : GoodIn wsX4_start wsX4_undoAllOpen := goodIn_r _ [133, 5, 3, 134, 109, 110, 87, 111, 101, 29, 30, 31, 135, 136, 137, 123, 138, 139, 140, 141, 142, 143, 144, 145, 146, 147, 126, 128, 148, 149, 150, 151, 127, 152, 153, 154, 68, 69, 25, 70, 27, 155, 156, 157, 158, 159, 160, 161, 162, 28, 163, 164, 165, 166, 167, 168, 169, 170, 171, 172, 46, 47, 48, 49, 50, 173, 105, 106, 107, 102, 89, 103, 108, 174, 175, 176, 177, 178, 197, 198, 199, 200, 179, 180, 181, 182, 183, 184, 185, 186, 187, 188, 189, 190, 195, 196] (by decide +kernel) (by decide +kernel)
set_option maxRecDepth 20000 in
theorem gX4_start_X4_undoAllOpen : GoodIn wsX4_start (wsV RX4 136 RX4 yX4_undoAllOpen wsX4_undoAllOpen) := goodIn_app (goodIn_of _ (by decide +kernel)) ggX4_start_X4_undoAllOpen
set_option maxRecDepth 20000 in
theorem ggX4_at_X3_byteOf : GoodIn wsX4_at wsX3_byteOf := goodIn_r _ [7, 8, 9, 27, 28] (by decide +kernel) (by decide +kernel)
set_option maxRecDepth 20000 in
theorem gX4_at_X3_byteOf : GoodIn wsX4_at (wsV RX4 139 RX3 yX3_byteOf wsX3_byteOf) := goodIn_app (goodIn_of _ (by decide +kernel)) ggX4_at_X3_byteOf
set_option maxRecDepth 20000 in
theorem ggX4_sound_X3_isSound : GoodIn wsX4_sound wsX3_isSound := goodIn_r _ [7, 8, 9, 10, 6, 11, 12, 13, 14, 15, 16, 17, 18, 19, 20, 21, 22, 40, 41] (by decide +kernel) (by decide +kernel)
set_option maxRecDepth 20000 in
theorem gX4_sound_X3_isSound : GoodIn wsX4_sound (wsV RX4 144 RX3 yX3_isSound wsX3_isSound) := goodIn_app (goodIn_of _ (by decide +kernel)) ggX4_sound_X3_isSound
set_option maxRecDepth 20000 in
theorem ggX4_poke_X3_byteOf : GoodIn wsX4_poke wsX3_byteOf := goodIn_r _ [7, 8, 9, 31, 32] (by decide +kernel) (by decide +kernel)
set_option maxRecDepth 20000 in
theorem gX4_poke_X3_byteOf : GoodIn wsX4_poke (wsV RX4 139 RX3 yX3_byteOf wsX3_byteOf) := goodIn_app (goodIn_of _ (by decide +kernel)) ggX4_poke_X3_byteOf
set_option maxRecDepth 20000 in
theorem ggX4_poke_X3_setByte : GoodIn wsX4_poke wsX3_setByte := goodIn_r _ [13, 8, 9, 31, 32] (by decide +kernel) (by decide +kernel)
set_option maxRecDepth 20000 in
theorem gX4_poke_X3_setByte : GoodIn wsX4_poke (wsV RX4 147 RX3 yX3_setByte wsX3_setByte) := goodIn_app (goodIn_of _ (by decide +kernel)) ggX4_poke_X3_setByte
set_option maxRecDepth 20000 in
theorem ggX4_count_X2_lastSerial : GoodIn wsX4_count wsX2_lastSerial := goodIn_r _ [9, 10, 49, 50, 51, 52, 53, 54, 55, 56, 57, 58, 59, 60] (by decide +kernel) (by decide +kernel)
set_option maxRecDepth 20000 in
theorem gX4_count_X2_lastSerial : GoodIn wsX4_count (wsV RX4 150 RX2 yX2_lastSerial wsX2_lastSerial) := goodIn_app (goodIn_of _ (by decide +kernel)) ggX4_count_X2_lastSerial
set_option maxRecDepth 20000 in
theorem ggX4_count_X2_lastSector : GoodIn wsX4_count wsX2_lastSector := goodIn_r _ [14, 15, 49, 50, 51, 52, 53, 54, 55, 56, 57, 58, 59, 60] (by decide +kernel) (by decide +kernel)
set_option maxRecDepth 20000 in
theorem gX4_count_X2_lastSector : GoodIn wsX4_count (wsV RX4 153 RX2 yX2_lastSector wsX2_lastSector) := goodIn_app (goodIn_of _ (by decide +kernel)) ggX4_count_X2_lastSector
set_option maxRecDepth 20000 in
theorem ggX4_count_X2_waiting : GoodIn wsX4_count wsX2_waiting := goodIn_r _ [19, 20, 49, 50, 51, 52, 53, 54, 55, 56, 57, 58, 59, 60] (by decide +kernel) (by decide +kernel)
set_option maxRecDepth 20000 in
theorem gX4_count_X2_waiting : GoodIn wsX4_count (wsV RX4 102 RX2 yX2_waiting wsX2_waiting) := goodIn_app (goodIn_of _ (by decide +kernel)) ggX4_count_X2_waiting
set_option maxRecDepth 20000 in
theorem ggX4_count_X2_entries : GoodIn wsX4_count wsX2_entries := goodIn_r _ [24, 25, 49, 50, 51, 52, 53, 54, 55, 56, 57, 58, 59, 60] (by decide +kernel) (by decide +kernel)
set_option maxRecDepth 20000 in
theorem gX4_count_X2_entries : GoodIn wsX4_count (wsV RX4 156 RX2 yX2_entries wsX2_entries) := goodIn_app (goodIn_of _ (by decide +kernel)) ggX4_count_X2_entries
set_option maxRecDepth 20000 in
theorem ggX4_count_X2_needed : GoodIn wsX4_count wsX2_needed := goodIn_r _ [29, 30, 31, 15, 32, 33, 34, 35, 36, 37, 49, 50, 51, 52, 53, 54, 55, 56, 57, 58, 59, 60, 61, 62] (by decide +kernel) (by decide +kernel)
set_option maxRecDepth 20000 in
theorem gX4_count_X2_needed : GoodIn wsX4_count (wsV RX4 159 RX2 yX2_needed wsX2_needed) := goodIn_app (goodIn_of _ (by decide +kernel)) ggX4_count_X2_needed
set_option maxRecDepth 20000 in
theorem ggX4_count_X0_openBits : GoodIn wsX4_count wsX0_openBits := goodIn_r _ [42, 43, 63, 64, 65, 66] (by decide +kernel) (by decide +kernel)
set_option maxRecDepth 20000 in
theorem gX4_count_X0_openBits : GoodIn wsX4_count (wsV RX4 92 RX0 yX0_openBits wsX0_openBits) := goodIn_app (goodIn_of _ (by decide +kernel)) ggX4_count_X0_openBits
set_option maxRecDepth 20000 in
theorem ggX4_holder_X0_holderOf : GoodIn wsX4_holder wsX0_holderOf := goodIn_r _ [7, 8, 9, 10, 11, 17, 18, 19, 20] (by decide +kernel) (by decide +kernel)
set_option maxRecDepth 20000 in
theorem gX4_holder_X0_holderOf : GoodIn wsX4_holder (wsV RX4 50 RX0 yX0_holderOf wsX0_holderOf) := goodIn_app (goodIn_of _ (by decide +kernel)) ggX4_holder_X0_holderOf
set_option maxRecDepth 20000 in
theorem ggX4_format_X2_beginAnew : GoodIn wsX4_format wsX2_beginAnew := goodIn_r _ [9, 10, 11, 12, 13, 14, 15, 16, 17, 18, 19, 20, 21, 22, 23, 24, 25, 26, 27, 28, 29, 30, 31, 32, 33, 34, 35, 36, 37, 38, 39, 40, 41, 42, 43, 44, 45, 8, 46, 47, 48, 49, 64, 65, 66, 67, 68, 69, 70, 71, 72, 73, 74, 75, 76, 77] (by decide +kernel) (by decide +kernel)
set_option maxRecDepth 20000 in
theorem gX4_format_X2_beginAnew : GoodIn wsX4_format (wsV RX4 162 RX2 yX2_beginAnew wsX2_beginAnew) := goodIn_app (goodIn_of _ (by decide +kernel)) ggX4_format_X2_beginAnew
set_option maxRecDepth 20000 in
theorem ggX4_format_X0_clear : GoodIn wsX4_format wsX0_clear := goodIn_r _ [54, 55, 56, 57, 58, 78, 79, 80, 81] (by decide +kernel) (by decide +kernel)
set_option maxRecDepth 20000 in
theorem gX4_format_X0_clear : GoodIn wsX4_format (wsV RX4 109 RX0 yX0_clear wsX0_clear) := goodIn_app (goodIn_of _ (by decide +kernel)) ggX4_format_X0_clear
set_option maxRecDepth 20000 in
theorem ggX4_endTransaction_X0_isOpen : GoodIn wsX4_endTransaction wsX0_isOpen := goodIn_r _ [8, 9, 10, 11, 12, 100, 101, 102, 103] (by decide +kernel) (by decide +kernel)
set_option maxRecDepth 20000 in
theorem gX4_endTransaction_X0_isOpen : GoodIn wsX4_endTransaction (wsV RX4 40 RX0 yX0_isOpen wsX0_isOpen) := goodIn_app (goodIn_of _ (by decide +kernel)) ggX4_endTransaction_X0_isOpen
set_option maxRecDepth 20000 in
theorem ggX4_endTransaction_X2_canTakeEntry : GoodIn wsX4_endTransaction wsX2_canTakeEntry := goodIn_r _ [17, 18, 19, 20, 21, 16, 22, 23, 24, 25, 26, 27, 28, 29, 30, 31, 32, 33, 34, 35, 36, 37, 38, 39, 104, 105, 106, 107, 108, 109, 110, 111, 112, 113, 114, 115, 116, 117] (by decide +kernel) (by decide +kernel)
set_option maxRecDepth 20000 in
theorem gX4_endTransaction_X2_canTakeEntry : GoodIn wsX4_endTransaction (wsV RX4 54 RX2 yX2_canTakeEntry wsX2_canTakeEntry) := goodIn_app (goodIn_of _ (by decide +kernel)) ggX4_endTransaction_X2_canTakeEntry
set_option maxRecDepth 20000 in
theorem ggX4_endTransaction_X2_takeEntry : GoodIn wsX4_endTransaction wsX2_takeEntry := goodIn_r _ [43, 18, 44, 45, 46, 47, 48, 49, 16, 50, 51, 29, 52, 53, 54, 55, 56, 23, 57, 58, 59, 60, 61, 33, 62, 35, 63, 64, 65, 66, 67, 68, 69, 70, 71, 72, 73, 74, 75, 76, 77, 78, 79, 80, 81, 82, 83, 84, 85, 86, 104, 105, 106, 107, 108, 109, 110, 111, 112, 113, 114, 115, 116, 117] (by decide +kernel) (by decide +kernel)
set_option maxRecDepth 20000 in
theorem gX4_endTransaction_X2_takeEntry : GoodIn wsX4_endTransaction (wsV RX4 62 RX2 yX2_takeEntry wsX2_takeEntry) := goodIn_app (goodIn_of _ (by decide +kernel)) ggX4_endTransaction_X2_takeEntry
set_option maxRecDepth 20000 in
theorem ggX4_endTransaction_X0_close : GoodIn wsX4_endTransaction wsX0_close := goodIn_r _ [90, 91, 92, 93, 9, 94, 5, 6, 7, 8, 10, 11, 12, 100, 101, 102, 103] (by decide +kernel) (by decide +kernel)
set_option maxRecDepth 20000 in
theorem gX4_endTransaction_X0_close : GoodIn wsX4_endTransaction (wsV RX4 165 RX0 yX0_close wsX0_close) := goodIn_app (goodIn_of _ (by decide +kernel)) ggX4_endTransaction_X0_close
set_option maxRecDepth 20000 in
theorem ggX4_undoAllOpen_X0_isOpen : GoodIn wsX4_undoAllOpen wsX0_isOpen := goodIn_r _ [7, 8, 9, 10, 11, 78, 79, 80, 81] (by decide +kernel) (by decide +kernel)
set_option maxRecDepth 20000 in
theorem gX4_undoAllOpen_X0_isOpen : GoodIn wsX4_undoAllOpen (wsV RX4 40 RX0 yX0_isOpen wsX0_isOpen) := goodIn_app (goodIn_of _ (by decide +kernel)) ggX4_undoAllOpen_X0_isOpen
set_option maxRecDepth 20000 in
theorem ggX4_undoAllOpen_X2_takeEntry : GoodIn wsX4_undoAllOpen wsX2_takeEntry := goodIn_r _ [16, 17, 18, 19, 20, 21, 22, 23, 15, 24, 25, 26, 27, 28, 29, 30, 31, 32, 33, 34, 35, 36, 37, 38, 39, 40, 41, 42, 43, 44, 45, 46, 47, 48, 49, 50, 51, 52, 53, 54, 55, 56, 57, 58, 59, 60, 61, 62, 63, 64, 82, 83, 84, 85, 86, 87, 88, 89, 90, 91, 92, 93, 94, 95] (by decide +kernel) (by decide +kernel)
set_option maxRecDepth 20000 in
theorem gX4_undoAllOpen_X2_takeEntry : GoodIn wsX4_undoAllOpen (wsV RX4 62 RX2 yX2_takeEntry wsX2_takeEntry) := goodIn_app (goodIn_of _ (by decide +kernel)) ggX4_undoAllOpen_X2_takeEntry
set_option maxRecDepth 20000 in
theorem ggX4_undoAllOpen_X0_close : GoodIn wsX4_undoAllOpen wsX0_close := goodIn_r _ [68, 69, 70, 71, 8, 72, 4, 5, 6, 7, 9, 10, 11, 78, 79, 80, 81] (by decide +kernel) (by decide +kernel)
set_option maxRecDepth 20000 in
theorem gX4_undoAllOpen_X0_close : GoodIn wsX4_undoAllOpen (wsV RX4 165 RX0 yX0_close wsX0_close) := goodIn_app (goodIn_of _ (by decide +kernel)) ggX4_undoAllOpen_X0_close
set_option maxRecDepth 20000 in
theorem ggX5_init_X5_begin0 : GoodIn wsX5_init wsX5_begin0 := goodIn_r _ [23, 24, 18, 5, 25, 26, 27, 28, 17, 29, 30, 31, 22, 32, 33, 34, 35, 14, 12, 15, 36, 37, 38, 39, 40, 41, 42, 43, 44, 45, 46, 47, 48, 49, 50, 51, 52, 53, 54, 55, 56, 57, 58, 59, 60, 61, 62, 63, 64, 65, 66, 67, 68, 69, 70, 71] (by decide +kernel) (by decide +kernel)
set_option maxRecDepth 20000 in
theorem gX5_init_X5_begin0 : GoodIn wsX5_init (wsV RX5 49 RX5 yX5_begin0 wsX5_begin0) := goodIn_app (goodIn_of _ (by decide +kernel)) ggX5_init_X5_begin0
set_option maxRecDepth 20000 in
theorem ggX5_begin0_X5_forget : GoodIn wsX5_begin0 wsX5_forget := goodIn_r _ [13, 14, 15, 16, 17, 18, 19, 36, 37, 38, 39, 40, 41, 42, 43, 44, 45, 46, 47, 48, 49, 50, 51, 52, 53, 54, 55] (by decide +kernel) (by decide +kernel)
set_option maxRecDepth 20000 in
theorem gX5_begin0_X5_forget : GoodIn wsX5_begin0 (wsV RX5 61 RX5 yX5_forget wsX5_forget) := goodIn_app (goodIn_of _ (by decide +kernel)) ggX5_begin0_X5_forget
set_option maxRecDepth 20000 in
theorem ggX5_begin0_X5_clearRow : GoodIn wsX5_begin0 wsX5_clearRow := goodIn_r _ [23, 8, 24, 25, 26, 12, 27, 36, 37, 38, 39, 40, 41, 42, 43, 44, 45, 46, 47, 48, 49, 50, 51, 52, 53, 54, 55] (by decide +kernel) (by decide +kernel)
set_option maxRecDepth 20000 in
theorem gX5_begin0_X5_clearRow : GoodIn wsX5_begin0 (wsV RX5 80 RX5 yX5_clearRow wsX5_clearRow) := goodIn_app (goodIn_of _ (by decide +kernel)) ggX5_begin0_X5_clearRow
set_option maxRecDepth 20000 in
theorem ggX5_begin0_X5_seal : GoodIn wsX5_begin0 wsX5_seal := goodIn_r _ [31, 8, 32, 33, 12, 34, 35, 24, 25, 26, 27, 36, 37, 38, 39, 40, 41, 42, 43, 44, 45, 46, 47, 48, 49, 50, 51, 52, 53, 54, 55] (by decide +kernel) (by decide +kernel)
set_option maxRecDepth 20000 in
theorem gX5_begin0_X5_seal : GoodIn wsX5_begin0 (wsV RX5 84 RX5 yX5_seal wsX5_seal) := goodIn_app (goodIn_of _ (by decide +kernel)) ggX5_begin0_X5_seal
set_option maxRecDepth 20000 in
theorem ggX5_clearRow_X5_number : GoodIn wsX5_clearRow wsX5_number := goodIn_r _ [6, 1, 7, 8, 9, 10, 11, 12, 13, 14, 15, 16, 17, 18, 19, 20, 21, 22, 23, 24, 25, 26] (by decide +kernel) (by decide +kernel)
set_option maxRecDepth 20000 in
theorem gX5_clearRow_X5_number : GoodIn wsX5_clearRow (wsV RX5 88 RX5 yX5_number wsX5_number) := goodIn_app (goodIn_of _ (by decide +kernel)) ggX5_clearRow_X5_number
set_option maxRecDepth 20000 in
theorem ggX5_seal_X5_step : GoodIn wsX5_seal wsX5_step := goodIn_r _ [5, 6] (by decide +kernel) (by decide +kernel)
set_option maxRecDepth 20000 in
theorem gX5_seal_X5_step : GoodIn wsX5_seal (va_wsS RX5 93 yX5_step wsX5_step) := goodIn_app (goodIn_of _ (by decide +kernel)) ggX5_seal_X5_step
set_option maxRecDepth 20000 in
theorem ggX5_seal_X5_number : GoodIn wsX5_seal wsX5_number := goodIn_r _ [10, 1, 11, 12, 13, 14, 15, 16, 17, 18, 19, 20, 21, 22, 23, 24, 25, 26, 27, 28, 29, 30] (by decide +kernel) (by decide +kernel)
set_option maxRecDepth 20000 in
theorem gX5_seal_X5_number : GoodIn wsX5_seal (wsV RX5 88 RX5 yX5_number wsX5_number) := goodIn_app (goodIn_of _ (by decide +kernel)) ggX5_seal_X5_number
set_option maxRecDepth 20000 in
theorem ggX5_mayWrite_X5_needed : GoodIn wsX5_mayWrite wsX5_needed := goodIn_r _ [6, 7, 8, 9, 10, 11, 12, 13, 14, 15, 16, 17, 18, 19, 20, 21, 22, 23, 24, 25, 26, 27, 28] (by decide +kernel) (by decide +kernel)
set_option maxRecDepth 20000 in
theorem gX5_mayWrite_X5_needed : GoodIn wsX5_mayWrite (wsV RX5 97 RX5 yX5_needed wsX5_needed) := goodIn_app (goodIn_of _ (by decide +kernel)) ggX5_mayWrite_X5_needed
set_option maxRecDepth 20000 in
theorem ggX5_write_X5_seal : GoodIn wsX5_write wsX5_seal := goodIn_r _ [12, 6, 13, 14, 11, 15, 16, 17, 18, 19, 20, 21, 22, 23, 24, 25, 26, 27, 28, 29, 30, 31, 32, 33, 34, 35, 36, 37, 38, 39, 40] (by decide +kernel) (by decide +kernel)
set_option maxRecDepth 20000 in
theorem gX5_write_X5_seal : GoodIn wsX5_write (wsV RX5 84 RX5 yX5_seal wsX5_seal) := goodIn_app (goodIn_of _ (by decide +kernel)) ggX5_write_X5_seal
set_option maxRecDepth 20000 in
theorem ggX5_writeEntries_X5_clearRow : GoodIn wsX5_writeEntries wsX5_clearRow := goodIn_r _ [11, 2, 12, 13, 14, 10, 15, 33, 34, 35, 36, 37, 38, 39, 40, 41, 42, 43, 44, 45, 46, 47, 48, 49, 50, 51, 52] (by decide +kernel) (by decide +kernel)
set_option maxRecDepth 20000 in
theorem gX5_writeEntries_X5_clearRow : GoodIn wsX5_writeEntries (wsV RX5 80 RX5 yX5_clearRow wsX5_clearRow) := goodIn_app (goodIn_of _ (by decide +kernel)) ggX5_writeEntries_X5_clearRow
set_option maxRecDepth 20000 in
theorem ggX5_writeEntries_X5_number : GoodIn wsX5_writeEntries wsX5_number := goodIn_r _ [15, 2, 33, 34, 35, 36, 37, 38, 39, 40, 41, 42, 43, 44, 45, 46, 47, 48, 49, 50, 51, 52] (by decide +kernel) (by decide +kernel)
set_option maxRecDepth 20000 in
theorem gX5_writeEntries_X5_number : GoodIn wsX5_writeEntries (wsV RX5 88 RX5 yX5_number wsX5_number) := goodIn_app (goodIn_of _ (by decide +kernel)) ggX5_writeEntries_X5_number
set_option maxRecDepth 20000 in
theorem ggX5_writeEntries_X5_write : GoodIn wsX5_writeEntries wsX5_write := goodIn_r _ [19, 20, 21, 22, 23, 24, 2, 1, 25, 26, 27, 10, 28, 29, 30, 31, 32, 12, 13, 14, 15, 33, 34, 35, 36, 37, 38, 39, 40, 41, 42, 43, 44, 45, 46, 47, 48, 49, 50, 51, 52] (by decide +kernel) (by decide +kernel)
set_option maxRecDepth 20000 in
theorem gX5_writeEntries_X5_write : GoodIn wsX5_writeEntries (wsV RX5 101 RX5 yX5_write wsX5_write) := goodIn_app (goodIn_of _ (by decide +kernel)) ggX5_writeEntries_X5_write
set_option maxRecDepth 20000 in
theorem ggX5_add_X5_writeEntries : GoodIn wsX5_add wsX5_writeEntries := goodIn_r _ [9, 10, 11, 2, 1, 3, 4, 12, 13, 14, 8, 15, 16, 17, 18, 19, 20, 21, 22, 23, 24, 25, 26, 27, 28, 29, 30, 31, 32, 33, 34, 35, 36, 37, 38, 39, 40, 41, 42, 43, 44, 45, 46, 47, 48, 49, 50, 51, 52, 53, 54, 55, 56] (by decide +kernel) (by decide +kernel)
set_option maxRecDepth 20000 in
theorem gX5_add_X5_writeEntries : GoodIn wsX5_add (wsV RX5 104 RX5 yX5_writeEntries wsX5_writeEntries) := goodIn_app (goodIn_of _ (by decide +kernel)) ggX5_add_X5_writeEntries
set_option maxRecDepth 20000 in
theorem ggX5_mayAdd_X5_mayWrite : GoodIn wsX5_mayAdd wsX5_mayWrite := goodIn_r _ [6, 7, 8, 9, 10, 5, 11, 12, 13, 14, 15, 16, 17, 18, 19, 20, 21, 22, 23, 24, 25, 26, 27, 28, 29, 30, 31, 32, 33] (by decide +kernel) (by decide +kernel)
set_option maxRecDepth 20000 in
theorem gX5_mayAdd_X5_mayWrite : GoodIn wsX5_mayAdd (wsV RX5 107 RX5 yX5_mayWrite wsX5_mayWrite) := goodIn_app (goodIn_of _ (by decide +kernel)) ggX5_mayAdd_X5_mayWrite
set_option maxRecDepth 20000 in
theorem ggX5_isOpenOne_X5_isIn : GoodIn wsX5_isOpenOne wsX5_isIn := goodIn_r _ [5] (by decide +kernel) (by decide +kernel)
set_option maxRecDepth 20000 in
theorem gX5_isOpenOne_X5_isIn : GoodIn wsX5_isOpenOne (va_wsS RX5 111 yX5_isIn wsX5_isIn) := goodIn_app (goodIn_of _ (by decide +kernel)) ggX5_isOpenOne_X5_isIn
set_option maxRecDepth 20000 in
theorem ggX5_isKey_X5_isIn : GoodIn wsX5_isKey wsX5_isIn := goodIn_r _ [4] (by decide +kernel) (by decide +kernel)
set_option maxRecDepth 20000 in
theorem gX5_isKey_X5_isIn : GoodIn wsX5_isKey (va_wsS RX5 111 yX5_isIn wsX5_isIn) := goodIn_app (goodIn_of _ (by decide +kernel)) ggX5_isKey_X5_isIn
set_option maxRecDepth 20000 in
theorem ggX5_put_X5_isOpenOne : GoodIn wsX5_put wsX5_isOpenOne := goodIn_r _ [9, 10, 11, 12, 8, 13, 69, 70, 71, 72, 73, 74, 75, 76, 77, 78, 79, 80, 81, 82, 83, 84, 85, 86, 87, 88] (by decide +kernel) (by decide +kernel)
set_option maxRecDepth 20000 in
theorem gX5_put_X5_isOpenOne : GoodIn wsX5_put (wsV RX5 115 RX5 yX5_isOpenOne wsX5_isOpenOne) := goodIn_app (goodIn_of _ (by decide +kernel)) ggX5_put_X5_isOpenOne
set_option maxRecDepth 20000 in
theorem ggX5_put_X5_isKey : GoodIn wsX5_put wsX5_isKey := goodIn_r _ [16, 11, 12, 8, 13] (by decide +kernel) (by decide +kernel)
set_option maxRecDepth 20000 in
theorem gX5_put_X5_isKey : GoodIn wsX5_put (va_wsS RX5 118 yX5_isKey wsX5_isKey) := goodIn_app (goodIn_of _ (by decide +kernel)) ggX5_put_X5_isKey
set_option maxRecDepth 20000 in
theorem ggX5_put_X5_isIn : GoodIn wsX5_put wsX5_isIn := goodIn_r _ [13] (by decide +kernel) (by decide +kernel)
set_option maxRecDepth 20000 in
theorem gX5_put_X5_isIn : GoodIn wsX5_put (va_wsS RX5 111 yX5_isIn wsX5_isIn) := goodIn_app (goodIn_of _ (by decide +kernel)) ggX5_put_X5_isIn
set_option maxRecDepth 20000 in
theorem ggX5_put_X5_mayAdd : GoodIn wsX5_put wsX5_mayAdd := goodIn_r _ [20, 21, 22, 23, 24, 8, 25, 26, 27, 28, 29, 30, 31, 32, 69, 70, 71, 72, 73, 74, 75, 76, 77, 78, 79, 80, 81, 82, 83, 84, 85, 86, 87, 88] (by decide +kernel) (by decide +kernel)
set_option maxRecDepth 20000 in
theorem gX5_put_X5_mayAdd : GoodIn wsX5_put (wsV RX5 122 RX5 yX5_mayAdd wsX5_mayAdd) := goodIn_app (goodIn_of _ (by decide +kernel)) ggX5_put_X5_mayAdd
set_option maxRecDepth 20000 in
theorem ggX5_put_X5_add : GoodIn wsX5_put wsX5_add := goodIn_r _ [36, 37, 21, 38, 39, 40, 41, 42, 8, 43, 31, 44, 45, 46, 47, 48, 49, 50, 51, 52, 53, 54, 55, 56, 57, 26, 58, 59, 60, 61, 62, 63, 64, 65, 66, 67, 68, 69, 70, 71, 72, 73, 74, 75, 76, 77, 78, 79, 80, 81, 82, 83, 84, 85, 86, 87, 88] (by decide +kernel) (by decide +kernel)
set_option maxRecDepth 20000 in
theorem gX5_put_X5_add : GoodIn wsX5_put (wsV RX5 126 RX5 yX5_add wsX5_add) := goodIn_app (goodIn_of _ (by decide +kernel)) ggX5_put_X5_add
set_option maxRecDepth 20000 in
theorem ggX5_finish_X5_isOpenOne : GoodIn wsX5_finish wsX5_isOpenOne := goodIn_r _ [7, 8, 9, 10, 6, 11, 71, 72, 73, 74, 75, 76, 77, 78, 79, 80, 81, 82, 83, 84, 85, 86, 87, 88, 89, 90] (by decide +kernel) (by decide +kernel)
set_option maxRecDepth 20000 in
theorem gX5_finish_X5_isOpenOne : GoodIn wsX5_finish (wsV RX5 115 RX5 yX5_isOpenOne wsX5_isOpenOne) := goodIn_app (goodIn_of _ (by decide +kernel)) ggX5_finish_X5_isOpenOne
set_option maxRecDepth 20000 in
theorem ggX5_finish_X5_mayAdd : GoodIn wsX5_finish wsX5_mayAdd := goodIn_r _ [15, 16, 17, 18, 19, 6, 20, 21, 22, 23, 24, 25, 26, 27, 71, 72, 73, 74, 75, 76, 77, 78, 79, 80, 81, 82, 83, 84, 85, 86, 87, 88, 89, 90] (by decide +kernel) (by decide +kernel)
set_option maxRecDepth 20000 in
theorem gX5_finish_X5_mayAdd : GoodIn wsX5_finish (wsV RX5 122 RX5 yX5_mayAdd wsX5_mayAdd) := goodIn_app (goodIn_of _ (by decide +kernel)) ggX5_finish_X5_mayAdd
set_option maxRecDepth 20000 in
theorem ggX5_finish_X5_add : GoodIn wsX5_finish wsX5_add := goodIn_r _ [31, 32, 16, 33, 34, 35, 36, 37, 6, 38, 26, 39, 40, 41, 42, 43, 44, 45, 46, 47, 48, 49, 50, 51, 52, 21, 53, 54, 55, 56, 57, 58, 59, 60, 61, 62, 63, 71, 72, 73, 74, 75, 76, 77, 78, 79, 80, 81, 82, 83, 84, 85, 86, 87, 88, 89, 90] (by decide +kernel) (by decide +kernel)
set_option maxRecDepth 20000 in
theorem gX5_finish_X5_add : GoodIn wsX5_finish (wsV RX5 126 RX5 yX5_add wsX5_add) := goodIn_app (goodIn_of _ (by decide +kernel)) ggX5_finish_X5_add
set_option maxRecDepth 20000 in
theorem ggX5_finish_X5_release : GoodIn wsX5_finish wsX5_release := goodIn_r _ [67, 68, 69, 70, 8, 71, 72, 73, 74, 75, 76, 77, 78, 79, 80, 81, 82, 83, 84, 85, 86, 87, 88, 89, 90] (by decide +kernel) (by decide +kernel)
set_option maxRecDepth 20000 in
theorem gX5_finish_X5_release : GoodIn wsX5_finish (wsV RX5 129 RX5 yX5_release wsX5_release) := goodIn_app (goodIn_of _ (by decide +kernel)) ggX5_finish_X5_release
set_option maxRecDepth 20000 in
theorem ggX5_commit_X5_finish : GoodIn wsX5_commit wsX5_finish := goodIn_r _ [5, 6, 7, 8, 9, 10, 4, 11, 12, 13, 14, 15, 16, 17, 18, 19, 20, 21, 22, 23, 24, 25, 26, 27, 28, 29, 30, 31, 32, 33, 34, 35, 36, 37, 38, 39, 40, 41, 42, 43, 44, 45, 46, 47, 48, 49, 50, 51, 52, 53, 54, 55, 56, 57, 58, 59, 60, 61, 62, 63, 64, 65, 66, 67, 68, 69, 70, 71, 72, 73, 74, 75, 76, 77, 78, 79, 80, 81, 82, 83, 84, 85, 86, 87, 88, 89, 90, 91, 92, 93, 94] (by decide +kernel) (by decide +kernel)
set_option maxRecDepth 20000 in
theorem gX5_commit_X5_finish : GoodIn wsX5_commit (wsV RX5 133 RX5 yX5_finish wsX5_finish) := goodIn_app (goodIn_of _ (by decide +kernel)) ggX5_commit_X5_finish
set_option maxRecDepth 20000 in
theorem ggX5_undo_X5_finish : GoodIn wsX5_undo wsX5_finish := goodIn_r _ [5, 6, 7, 8, 9, 10, 4, 11, 12, 13, 14, 15, 16, 17, 18, 19, 20, 21, 22, 23, 24, 25, 26, 27, 28, 29, 30, 31, 32, 33, 34, 35, 36, 37, 38, 39, 40, 41, 42, 43, 44, 45, 46, 47, 48, 49, 50, 51, 52, 53, 54, 55, 56, 57, 58, 59, 60, 61, 62, 63, 64, 65, 66, 67, 68, 69, 70, 71, 72, 73, 74, 75, 76, 77, 78, 79, 80, 81, 82, 83, 84, 85, 86, 87, 88, 89, 90, 91, 92, 93, 94] (by decide +kernel) (by decide +kernel)
set_option maxRecDepth 20000 in
theorem gX5_undo_X5_finish : GoodIn wsX5_undo (wsV RX5 133 RX5 yX5_finish wsX5_finish) := goodIn_app (goodIn_of _ (by decide +kernel)) ggX5_undo_X5_finish
set_option maxRecDepth 20000 in
theorem ggX5_get_X5_isKey : GoodIn wsX5_get wsX5_isKey := goodIn_r _ [6, 7, 8, 5, 9] (by decide +kernel) (by decide +kernel)
set_option maxRecDepth 20000 in
theorem gX5_get_X5_isKey : GoodIn wsX5_get (va_wsS RX5 118 yX5_isKey wsX5_isKey) := goodIn_app (goodIn_of _ (by decide +kernel)) ggX5_get_X5_isKey
set_option maxRecDepth 20000 in
theorem ggX5_seen_X5_isOpenOne : GoodIn wsX5_seen wsX5_isOpenOne := goodIn_r _ [9, 10, 11, 12, 8, 13, 17, 18, 19, 20, 21, 22, 23, 24, 25, 26, 27, 28, 29, 30, 31, 32, 33, 34, 35, 36] (by decide +kernel) (by decide +kernel)
set_option maxRecDepth 20000 in
theorem gX5_seen_X5_isOpenOne : GoodIn wsX5_seen (wsV RX5 115 RX5 yX5_isOpenOne wsX5_isOpenOne) := goodIn_app (goodIn_of _ (by decide +kernel)) ggX5_seen_X5_isOpenOne
set_option maxRecDepth 20000 in
theorem ggX5_seen_X5_isKey : GoodIn wsX5_seen wsX5_isKey := goodIn_r _ [16, 11, 12, 8, 13] (by decide +kernel) (by decide +kernel)
set_option maxRecDepth 20000 in
theorem gX5_seen_X5_isKey : GoodIn wsX5_seen (va_wsS RX5 118 yX5_isKey wsX5_isKey) := goodIn_app (goodIn_of _ (by decide +kernel)) ggX5_seen_X5_isKey
set_option maxRecDepth 20000 in
theorem ggX5_sync_X5_mayWrite : GoodIn wsX5_sync wsX5_mayWrite := goodIn_r _ [10, 11, 12, 13, 14, 9, 15, 16, 5, 53, 54, 55, 56, 57, 58, 59, 60, 61, 62, 63, 64, 65, 66, 67, 68, 69, 70, 71, 72] (by decide +kernel) (by decide +kernel)
set_option maxRecDepth 20000 in
theorem gX5_sync_X5_mayWrite : GoodIn wsX5_sync (wsV RX5 107 RX5 yX5_mayWrite wsX5_mayWrite) := goodIn_app (goodIn_of _ (by decide +kernel)) ggX5_sync_X5_mayWrite
set_option maxRecDepth 20000 in
theorem ggX5_sync_X5_writeEntries : GoodIn wsX5_sync wsX5_writeEntries := goodIn_r _ [20, 16, 21, 2, 22, 23, 24, 25, 26, 27, 9, 28, 29, 30, 31, 32, 33, 34, 35, 36, 37, 11, 38, 3, 39, 40, 41, 42, 43, 44, 45, 46, 47, 53, 54, 55, 56, 57, 58, 59, 60, 61, 62, 63, 64, 65, 66, 67, 68, 69, 70, 71, 72] (by decide +kernel) (by decide +kernel)
set_option maxRecDepth 20000 in
theorem gX5_sync_X5_writeEntries : GoodIn wsX5_sync (wsV RX5 104 RX5 yX5_writeEntries wsX5_writeEntries) := goodIn_app (goodIn_of _ (by decide +kernel)) ggX5_sync_X5_writeEntries
set_option maxRecDepth 20000 in
theorem ggX5_sync_X5_lay : GoodIn wsX5_sync wsX5_lay := goodIn_r _ [51, 52, 38, 39, 53, 54, 55, 56, 57, 58, 59, 60, 61, 62, 63, 64, 65, 66, 67, 68, 69, 70, 71, 72] (by decide +kernel) (by decide +kernel)
set_option maxRecDepth 20000 in
theorem gX5_sync_X5_lay : GoodIn wsX5_sync (wsV RX5 136 RX5 yX5_lay wsX5_lay) := goodIn_app (goodIn_of _ (by decide +kernel)) ggX5_sync_X5_lay
set_option maxRecDepth 20000 in
theorem ggX5_checkpoint_X5_mayWrite : GoodIn wsX5_checkpoint wsX5_mayWrite := goodIn_r _ [12, 13, 14, 15, 16, 11, 17, 5, 18, 50, 51, 52, 53, 54, 55, 56, 57, 58, 59, 60, 61, 62, 63, 64, 65, 66, 67, 68, 69] (by decide +kernel) (by decide +kernel)
set_option maxRecDepth 20000 in
theorem gX5_checkpoint_X5_mayWrite : GoodIn wsX5_checkpoint (wsV RX5 107 RX5 yX5_mayWrite wsX5_mayWrite) := goodIn_app (goodIn_of _ (by decide +kernel)) ggX5_checkpoint_X5_mayWrite
set_option maxRecDepth 20000 in
theorem ggX5_checkpoint_X5_writeEntries : GoodIn wsX5_checkpoint wsX5_writeEntries := goodIn_r _ [22, 5, 7, 4, 23, 24, 25, 26, 27, 28, 11, 29, 30, 31, 32, 33, 34, 35, 36, 37, 38, 13, 39, 40, 41, 42, 43, 44, 45, 46, 47, 48, 49, 50, 51, 52, 53, 54, 55, 56, 57, 58, 59, 60, 61, 62, 63, 64, 65, 66, 67, 68, 69] (by decide +kernel) (by decide +kernel)
set_option maxRecDepth 20000 in
theorem gX5_checkpoint_X5_writeEntries : GoodIn wsX5_checkpoint (wsV RX5 104 RX5 yX5_writeEntries wsX5_writeEntries) := goodIn_app (goodIn_of _ (by decide +kernel)) ggX5_checkpoint_X5_writeEntries
set_option maxRecDepth 20000 in
theorem ggX5_checkpoint_X5_clearRow : GoodIn wsX5_checkpoint wsX5_clearRow := goodIn_r _ [29, 7, 30, 31, 32, 11, 33, 50, 51, 52, 53, 54, 55, 56, 57, 58, 59, 60, 61, 62, 63, 64, 65, 66, 67, 68, 69] (by decide +kernel) (by decide +kernel)
set_option maxRecDepth 20000 in
theorem gX5_checkpoint_X5_clearRow : GoodIn wsX5_checkpoint (wsV RX5 80 RX5 yX5_clearRow wsX5_clearRow) := goodIn_app (goodIn_of _ (by decide +kernel)) ggX5_checkpoint_X5_clearRow
set_option maxRecDepth 20000 in
theorem ggX5_checkpoint_X5_number : GoodIn wsX5_checkpoint wsX5_number := goodIn_r _ [33, 7, 50, 51, 52, 53, 54, 55, 56, 57, 58, 59, 60, 61, 62, 63, 64, 65, 66, 67, 68, 69] (by decide +kernel) (by decide +kernel)
set_option maxRecDepth 20000 in
theorem gX5_checkpoint_X5_number : GoodIn wsX5_checkpoint (wsV RX5 88 RX5 yX5_number wsX5_number) := goodIn_app (goodIn_of _ (by decide +kernel)) ggX5_checkpoint_X5_number
set_option maxRecDepth 20000 in
theorem ggX5_checkpoint_X5_write : GoodIn wsX5_checkpoint wsX5_write := goodIn_r _ [37, 38, 13, 39, 40, 41, 7, 5, 42, 43, 44, 11, 45, 46, 47, 48, 49, 30, 31, 32, 33, 50, 51, 52, 53, 54, 55, 56, 57, 58, 59, 60, 61, 62, 63, 64, 65, 66, 67, 68, 69] (by decide +kernel) (by decide +kernel)
set_option maxRecDepth 20000 in
theorem gX5_checkpoint_X5_write : GoodIn wsX5_checkpoint (wsV RX5 101 RX5 yX5_write wsX5_write) := goodIn_app (goodIn_of _ (by decide +kernel)) ggX5_checkpoint_X5_write
set_option maxRecDepth 20000 in
theorem ggX5_cut_X5_isIn : GoodIn wsX5_cut wsX5_isIn := goodIn_r _ [6] (by decide +kernel) (by decide +kernel)
set_option maxRecDepth 20000 in
theorem gX5_cut_X5_isIn : GoodIn wsX5_cut (va_wsS RX5 111 yX5_isIn wsX5_isIn) := goodIn_app (goodIn_of _ (by decide +kernel)) ggX5_cut_X5_isIn
set_option maxRecDepth 20000 in
theorem ggX5_cut_X5_lay : GoodIn wsX5_cut wsX5_lay := goodIn_r _ [10, 11, 12, 13, 23, 24, 25, 26, 27, 28, 29, 30, 31, 32, 33, 34, 35, 36, 37, 38, 39, 40, 41, 42] (by decide +kernel) (by decide +kernel)
set_option maxRecDepth 20000 in
theorem gX5_cut_X5_lay : GoodIn wsX5_cut (wsV RX5 136 RX5 yX5_lay wsX5_lay) := goodIn_app (goodIn_of _ (by decide +kernel)) ggX5_cut_X5_lay
set_option maxRecDepth 20000 in
theorem ggX5_cut_X5_forget : GoodIn wsX5_cut wsX5_forget := goodIn_r _ [17, 2, 18, 19, 20, 21, 22, 23, 24, 25, 26, 27, 28, 29, 30, 31, 32, 33, 34, 35, 36, 37, 38, 39, 40, 41, 42] (by decide +kernel) (by decide +kernel)
set_option maxRecDepth 20000 in
theorem gX5_cut_X5_forget : GoodIn wsX5_cut (wsV RX5 61 RX5 yX5_forget wsX5_forget) := goodIn_app (goodIn_of _ (by decide +kernel)) ggX5_cut_X5_forget
set_option maxRecDepth 20000 in
theorem ggX5_numberAt_X5_byteAt : GoodIn wsX5_numberAt wsX5_byteAt := goodIn_r _ [5, 6, 7, 8, 9, 10, 11, 12, 13, 14, 15, 16, 17, 18, 19, 20, 21, 22, 23, 24, 25, 26] (by decide +kernel) (by decide +kernel)
set_option maxRecDepth 20000 in
theorem gX5_numberAt_X5_byteAt : GoodIn wsX5_numberAt (wsV RX5 139 RX5 yX5_byteAt wsX5_byteAt) := goodIn_app (goodIn_of _ (by decide +kernel)) ggX5_numberAt_X5_byteAt
set_option maxRecDepth 20000 in
theorem ggX5_isSound_X5_byteAt : GoodIn wsX5_isSound wsX5_byteAt := goodIn_r _ [5, 6, 15, 16, 17, 18, 19, 20, 21, 22, 23, 24, 25, 26, 27, 28, 29, 30, 31, 32, 33, 34] (by decide +kernel) (by decide +kernel)
set_option maxRecDepth 20000 in
theorem gX5_isSound_X5_byteAt : GoodIn wsX5_isSound (wsV RX5 139 RX5 yX5_byteAt wsX5_byteAt) := goodIn_app (goodIn_of _ (by decide +kernel)) ggX5_isSound_X5_byteAt
set_option maxRecDepth 20000 in
theorem ggX5_isSound_X5_step : GoodIn wsX5_isSound wsX5_step := goodIn_r _ [9, 10] (by decide +kernel) (by decide +kernel)
set_option maxRecDepth 20000 in
theorem gX5_isSound_X5_step : GoodIn wsX5_isSound (va_wsS RX5 93 yX5_step wsX5_step) := goodIn_app (goodIn_of _ (by decide +kernel)) ggX5_isSound_X5_step
set_option maxRecDepth 20000 in
theorem ggX5_isSound_X5_numberAt : GoodIn wsX5_isSound wsX5_numberAt := goodIn_r _ [14, 1, 2, 3, 4, 5, 6, 15, 16, 17, 18, 19, 20, 21, 22, 23, 24, 25, 26, 27, 28, 29, 30, 31, 32, 33, 34] (by decide +kernel) (by decide +kernel)
set_option maxRecDepth 20000 in
theorem gX5_isSound_X5_numberAt : GoodIn wsX5_isSound (wsV RX5 142 RX5 yX5_numberAt wsX5_numberAt) := goodIn_app (goodIn_of _ (by decide +kernel)) ggX5_isSound_X5_numberAt
set_option maxRecDepth 20000 in
theorem ggX5_tells_X5_byteAt : GoodIn wsX5_tells wsX5_byteAt := goodIn_r _ [5, 6, 19, 20, 21, 22, 23, 24, 25, 26, 27, 28, 29, 30, 31, 32, 33, 34, 35, 36, 37, 38] (by decide +kernel) (by decide +kernel)
set_option maxRecDepth 20000 in
theorem gX5_tells_X5_byteAt : GoodIn wsX5_tells (wsV RX5 139 RX5 yX5_byteAt wsX5_byteAt) := goodIn_app (goodIn_of _ (by decide +kernel)) ggX5_tells_X5_byteAt
set_option maxRecDepth 20000 in
theorem ggX5_tells_X5_isSound : GoodIn wsX5_tells wsX5_isSound := goodIn_r _ [10, 1, 2, 3, 4, 5, 6, 11, 12, 13, 14, 15, 16, 17, 18, 19, 20, 21, 22, 23, 24, 25, 26, 27, 28, 29, 30, 31, 32, 33, 34, 35, 36, 37, 38] (by decide +kernel) (by decide +kernel)
set_option maxRecDepth 20000 in
theorem gX5_tells_X5_isSound : GoodIn wsX5_tells (wsV RX5 146 RX5 yX5_isSound wsX5_isSound) := goodIn_app (goodIn_of _ (by decide +kernel)) ggX5_tells_X5_isSound
set_option maxRecDepth 20000 in
theorem ggX5_serialAt_X5_numberAt : GoodIn wsX5_serialAt wsX5_numberAt := goodIn_r _ [5, 6, 7, 8, 4, 9, 10, 11, 12, 13, 14, 15, 16, 17, 18, 19, 20, 21, 22, 23, 24, 25, 26, 27, 28, 29, 30] (by decide +kernel) (by decide +kernel)
set_option maxRecDepth 20000 in
theorem gX5_serialAt_X5_numberAt : GoodIn wsX5_serialAt (wsV RX5 142 RX5 yX5_numberAt wsX5_numberAt) := goodIn_app (goodIn_of _ (by decide +kernel)) ggX5_serialAt_X5_numberAt
set_option maxRecDepth 20000 in
theorem ggX5_pagesFrom_X5_byteAt : GoodIn wsX5_pagesFrom wsX5_byteAt := goodIn_r _ [6, 7, 28, 29, 30, 31, 32, 33, 34, 35, 36, 37, 38, 39, 40, 41, 42, 43, 44, 45, 46, 47] (by decide +kernel) (by decide +kernel)
set_option maxRecDepth 20000 in
theorem gX5_pagesFrom_X5_byteAt : GoodIn wsX5_pagesFrom (wsV RX5 139 RX5 yX5_byteAt wsX5_byteAt) := goodIn_app (goodIn_of _ (by decide +kernel)) ggX5_pagesFrom_X5_byteAt
set_option maxRecDepth 20000 in
theorem ggX5_pagesFrom_X5_tells : GoodIn wsX5_pagesFrom wsX5_tells := goodIn_r _ [11, 2, 3, 4, 5, 6, 7, 12, 13, 14, 15, 16, 17, 18, 19, 20, 21, 22, 23, 28, 29, 30, 31, 32, 33, 34, 35, 36, 37, 38, 39, 40, 41, 42, 43, 44, 45, 46, 47] (by decide +kernel) (by decide +kernel)
set_option maxRecDepth 20000 in
theorem gX5_pagesFrom_X5_tells : GoodIn wsX5_pagesFrom (wsV RX5 149 RX5 yX5_tells wsX5_tells) := goodIn_app (goodIn_of _ (by decide +kernel)) ggX5_pagesFrom_X5_tells
set_option maxRecDepth 20000 in
theorem ggX5_pagesFrom_X5_serialAt : GoodIn wsX5_pagesFrom wsX5_serialAt := goodIn_r _ [27, 20, 21, 22, 5, 23, 2, 3, 4, 6, 7, 28, 29, 30, 31, 32, 33, 34, 35, 36, 37, 38, 39, 40, 41, 42, 43, 44, 45, 46, 47] (by decide +kernel) (by decide +kernel)
set_option maxRecDepth 20000 in
theorem gX5_pagesFrom_X5_serialAt : GoodIn wsX5_pagesFrom (wsV RX5 152 RX5 yX5_serialAt wsX5_serialAt) := goodIn_app (goodIn_of _ (by decide +kernel)) ggX5_pagesFrom_X5_serialAt
set_option maxRecDepth 20000 in
theorem ggX5_redo_X5_byteAt : GoodIn wsX5_redo wsX5_byteAt := goodIn_r _ [8, 9, 19, 20, 21, 22, 23, 24, 25, 26, 27, 28, 29, 30, 31, 32, 33, 34, 35, 36, 37, 38] (by decide +kernel) (by decide +kernel)
set_option maxRecDepth 20000 in
theorem gX5_redo_X5_byteAt : GoodIn wsX5_redo (wsV RX5 139 RX5 yX5_byteAt wsX5_byteAt) := goodIn_app (goodIn_of _ (by decide +kernel)) ggX5_redo_X5_byteAt
set_option maxRecDepth 20000 in
theorem ggX5_redo_X5_numberAt : GoodIn wsX5_redo wsX5_numberAt := goodIn_r _ [13, 4, 5, 6, 7, 8, 9, 19, 20, 21, 22, 23, 24, 25, 26, 27, 28, 29, 30, 31, 32, 33, 34, 35, 36, 37, 38] (by decide +kernel) (by decide +kernel)
set_option maxRecDepth 20000 in
theorem gX5_redo_X5_numberAt : GoodIn wsX5_redo (wsV RX5 142 RX5 yX5_numberAt wsX5_numberAt) := goodIn_app (goodIn_of _ (by decide +kernel)) ggX5_redo_X5_numberAt
set_option maxRecDepth 20000 in
theorem ggX5_redo_X5_release : GoodIn wsX5_redo wsX5_release := goodIn_r _ [17, 2, 18, 3, 1, 19, 20, 21, 22, 23, 24, 25, 26, 27, 28, 29, 30, 31, 32, 33, 34, 35, 36, 37, 38] (by decide +kernel) (by decide +kernel)
set_option maxRecDepth 20000 in
theorem gX5_redo_X5_release : GoodIn wsX5_redo (wsV RX5 129 RX5 yX5_release wsX5_release) := goodIn_app (goodIn_of _ (by decide +kernel)) ggX5_redo_X5_release
set_option maxRecDepth 20000 in
theorem ggX5_start_X5_serialAt : GoodIn wsX5_start wsX5_serialAt := goodIn_r _ [14, 15, 16, 17, 13, 18, 19, 20, 21, 22, 23, 87, 88, 89, 90, 91, 92, 93, 94, 95, 96, 97, 98, 99, 100, 101, 102, 103, 104, 105, 106] (by decide +kernel) (by decide +kernel)
set_option maxRecDepth 20000 in
theorem gX5_start_X5_serialAt : GoodIn wsX5_start (wsV RX5 152 RX5 yX5_serialAt wsX5_serialAt) := goodIn_app (goodIn_of _ (by decide +kernel)) ggX5_start_X5_serialAt
set_option maxRecDepth 20000 in
theorem ggX5_start_X5_pagesFrom : GoodIn wsX5_start wsX5_pagesFrom := goodIn_r _ [27, 2, 19, 20, 21, 13, 22, 23, 28, 29, 30, 31, 32, 33, 34, 35, 36, 37, 38, 39, 15, 16, 17, 18, 10, 11, 12, 14, 87, 88, 89, 90, 91, 92, 93, 94, 95, 96, 97, 98, 99, 100, 101, 102, 103, 104, 105, 106] (by decide +kernel) (by decide +kernel)
set_option maxRecDepth 20000 in
theorem gX5_start_X5_pagesFrom : GoodIn wsX5_start (wsV RX5 157 RX5 yX5_pagesFrom wsX5_pagesFrom) := goodIn_app (goodIn_of _ (by decide +kernel)) ggX5_start_X5_pagesFrom
set_option maxRecDepth 20000 in
theorem ggX5_start_X5_forget : GoodIn wsX5_start wsX5_forget := goodIn_r _ [43, 44, 45, 46, 9, 4, 47, 87, 88, 89, 90, 91, 92, 93, 94, 95, 96, 97, 98, 99, 100, 101, 102, 103, 104, 105, 106] (by decide +kernel) (by decide +kernel)
set_option maxRecDepth 20000 in
theorem gX5_start_X5_forget : GoodIn wsX5_start (wsV RX5 61 RX5 yX5_forget wsX5_forget) := goodIn_app (goodIn_of _ (by decide +kernel)) ggX5_start_X5_forget
set_option maxRecDepth 20000 in
theorem ggX5_start_X5_byteAt : GoodIn wsX5_start wsX5_byteAt := goodIn_r _ [22, 23, 87, 88, 89, 90, 91, 92, 93, 94, 95, 96, 97, 98, 99, 100, 101, 102, 103, 104, 105, 106] (by decide +kernel) (by decide +kernel)
set_option maxRecDepth 20000 in
theorem gX5_start_X5_byteAt : GoodIn wsX5_start (wsV RX5 139 RX5 yX5_byteAt wsX5_byteAt) := goodIn_app (goodIn_of _ (by decide +kernel)) ggX5_start_X5_byteAt
set_option maxRecDepth 20000 in
theorem ggX5_start_X5_numberAt : GoodIn wsX5_start wsX5_numberAt := goodIn_r _ [18, 19, 20, 21, 13, 22, 23, 87, 88, 89, 90, 91, 92, 93, 94, 95, 96, 97, 98, 99, 100, 101, 102, 103, 104, 105, 106] (by decide +kernel) (by decide +kernel)
set_option maxRecDepth 20000 in
theorem gX5_start_X5_numberAt : GoodIn wsX5_start (wsV RX5 142 RX5 yX5_numberAt wsX5_numberAt) := goodIn_app (goodIn_of _ (by decide +kernel)) ggX5_start_X5_numberAt
set_option maxRecDepth 20000 in
theorem ggX5_start_X5_tells : GoodIn wsX5_start wsX5_tells := goodIn_r _ [31, 19, 20, 21, 13, 22, 23, 32, 33, 34, 35, 36, 37, 38, 39, 15, 16, 17, 18, 87, 88, 89, 90, 91, 92, 93, 94, 95, 96, 97, 98, 99, 100, 101, 102, 103, 104, 105, 106] (by decide +kernel) (by decide +kernel)
set_option maxRecDepth 20000 in
theorem gX5_start_X5_tells : GoodIn wsX5_start (wsV RX5 149 RX5 yX5_tells wsX5_tells) := goodIn_app (goodIn_of _ (by decide +kernel)) ggX5_start_X5_tells
set_option maxRecDepth 20000 in
theorem ggX5_start_X5_redo : GoodIn wsX5_start wsX5_redo := goodIn_r _ [51, 9, 47, 52, 19, 20, 21, 13, 22, 23, 15, 16, 17, 18, 53, 54, 55, 56, 4, 87, 88, 89, 90, 91, 92, 93, 94, 95, 96, 97, 98, 99, 100, 101, 102, 103, 104, 105, 106] (by decide +kernel) (by decide +kernel)
set_option maxRecDepth 20000 in
theorem gX5_start_X5_redo : GoodIn wsX5_start (wsV RX5 160 RX5 yX5_redo wsX5_redo) := goodIn_app (goodIn_of _ (by decide +kernel)) ggX5_start_X5_redo
set_option maxRecDepth 20000 in
theorem ggX5_start_X5_release : GoodIn wsX5_start wsX5_release := goodIn_r _ [56, 47, 4, 52, 9, 87, 88, 89, 90, 91, 92, 93, 94, 95, 96, 97, 98, 99, 100, 101, 102, 103, 104, 105, 106] (by decide +kernel) (by decide +kernel)
set_option maxRecDepth 20000 in
theorem gX5_start_X5_release : GoodIn wsX5_start (wsV RX5 129 RX5 yX5_release wsX5_release) := goodIn_app (goodIn_of _ (by decide +kernel)) ggX5_start_X5_release
set_option maxRecDepth 20000 in
theorem ggX5_start_X5_add : GoodIn wsX5_start wsX5_add := goodIn_r _ [60, 61, 45, 62, 63, 64, 65, 66, 13, 67, 7, 68, 69, 70, 71, 72, 73, 74, 75, 76, 77, 78, 79, 80, 8, 2, 81, 44, 82, 83, 84, 85, 86, 36, 37, 38, 39, 87, 88, 89, 90, 91, 92, 93, 94, 95, 96, 97, 98, 99, 100, 101, 102, 103, 104, 105, 106] (by decide +kernel) (by decide +kernel)
set_option maxRecDepth 20000 in
theorem gX5_start_X5_add : GoodIn wsX5_start (wsV RX5 126 RX5 yX5_add wsX5_add) := goodIn_app (goodIn_of _ (by decide +kernel)) ggX5_start_X5_add
set_option maxRecDepth 20000 in
theorem ggX5_at_X5_isIn : GoodIn wsX5_at wsX5_isIn := goodIn_r _ [5] (by decide +kernel) (by decide +kernel)
set_option maxRecDepth 20000 in
theorem gX5_at_X5_isIn : GoodIn wsX5_at (va_wsS RX5 111 yX5_isIn wsX5_isIn) := goodIn_app (goodIn_of _ (by decide +kernel)) ggX5_at_X5_isIn
set_option maxRecDepth 20000 in
theorem ggX5_at_X5_byteAt : GoodIn wsX5_at wsX5_byteAt := goodIn_r _ [9, 10, 11, 12, 13, 14, 15, 16, 17, 18, 19, 20, 21, 22, 23, 24, 25, 26, 27, 28, 29, 30] (by decide +kernel) (by decide +kernel)
set_option maxRecDepth 20000 in
theorem gX5_at_X5_byteAt : GoodIn wsX5_at (wsV RX5 139 RX5 yX5_byteAt wsX5_byteAt) := goodIn_app (goodIn_of _ (by decide +kernel)) ggX5_at_X5_byteAt
set_option maxRecDepth 20000 in
theorem ggX5_sound_X5_isIn : GoodIn wsX5_sound wsX5_isIn := goodIn_r _ [5] (by decide +kernel) (by decide +kernel)
set_option maxRecDepth 20000 in
theorem gX5_sound_X5_isIn : GoodIn wsX5_sound (va_wsS RX5 111 yX5_isIn wsX5_isIn) := goodIn_app (goodIn_of _ (by decide +kernel)) ggX5_sound_X5_isIn
set_option maxRecDepth 20000 in
theorem ggX5_sound_X5_isSound : GoodIn wsX5_sound wsX5_isSound := goodIn_r _ [9, 10, 11, 12, 4, 13, 14, 15, 16, 17, 18, 19, 20, 21, 22, 23, 24, 25, 26, 27, 28, 29, 30, 31, 32, 33, 34, 35, 36, 37, 38, 39, 40, 41, 42] (by decide +kernel) (by decide +kernel)
set_option maxRecDepth 20000 in
theorem gX5_sound_X5_isSound : GoodIn wsX5_sound (wsV RX5 146 RX5 yX5_isSound wsX5_isSound) := goodIn_app (goodIn_of _ (by decide +kernel)) ggX5_sound_X5_isSound
set_option maxRecDepth 20000 in
theorem ggX5_poke_X5_isIn : GoodIn wsX5_poke wsX5_isIn := goodIn_r _ [6] (by decide +kernel) (by decide +kernel)
set_option maxRecDepth 20000 in
theorem gX5_poke_X5_isIn : GoodIn wsX5_poke (va_wsS RX5 111 yX5_isIn wsX5_isIn) := goodIn_app (goodIn_of _ (by decide +kernel)) ggX5_poke_X5_isIn
set_option maxRecDepth 20000 in
theorem ggX5_count_X5_needed : GoodIn wsX5_count wsX5_needed := goodIn_r _ [12, 2, 13, 14, 15, 16, 17, 18, 19, 20, 21, 22, 23, 24, 25, 26, 27, 28, 29, 30, 31, 32, 33] (by decide +kernel) (by decide +kernel)
set_option maxRecDepth 20000 in
theorem gX5_count_X5_needed : GoodIn wsX5_count (wsV RX5 97 RX5 yX5_needed wsX5_needed) := goodIn_app (goodIn_of _ (by decide +kernel)) ggX5_count_X5_needed
set_option maxRecDepth 20000 in
theorem ggX5_holder_X5_isKey : GoodIn wsX5_holder wsX5_isKey := goodIn_r _ [6, 7, 8, 5, 9] (by decide +kernel) (by decide +kernel)
set_option maxRecDepth 20000 in
theorem gX5_holder_X5_isKey : GoodIn wsX5_holder (va_wsS RX5 118 yX5_isKey wsX5_isKey) := goodIn_app (goodIn_of _ (by decide +kernel)) ggX5_holder_X5_isKey
set_option maxRecDepth 20000 in
theorem ggX5_format_X5_begin0 : GoodIn wsX5_format wsX5_begin0 := goodIn_r _ [7, 1, 8, 9, 10, 11, 12, 13, 14, 15, 16, 17, 6, 18, 19, 20, 2, 21, 22, 23, 24, 25, 26, 27, 28, 29, 30, 31, 32, 33, 34, 35, 36, 37, 38, 39, 40, 41, 42, 43, 44, 45, 46, 47, 48, 49, 50, 51, 52, 53, 54, 55, 56, 57, 58, 59] (by decide +kernel) (by decide +kernel)
set_option maxRecDepth 20000 in
theorem gX5_format_X5_begin0 : GoodIn wsX5_format (wsV RX5 49 RX5 yX5_begin0 wsX5_begin0) := goodIn_app (goodIn_of _ (by decide +kernel)) ggX5_format_X5_begin0
