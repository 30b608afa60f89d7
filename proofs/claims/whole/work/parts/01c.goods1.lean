set_option maxRecDepth 20000 in
theorem ggX0_init_X0_clear : GoodIn wsX0_init wsX0_clear := goodIn_r _ [12, 5, 6, 7, 13, 14, 15, 16, 17] (by decide +kernel) (by decide +kernel)
set_option maxRecDepth 20000 in
theorem gX0_init_X0_clear : GoodIn wsX0_init (wsV RX0 21 RX0 yX0_clear wsX0_clear) := goodIn_app (goodIn_of _ (by decide +kernel)) ggX0_init_X0_clear
set_option maxRecDepth 20000 in
theorem ggX0_openLeast_X0_isOpen : GoodIn wsX0_openLeast wsX0_isOpen := goodIn_r _ [6, 1, 7, 8, 9, 10, 11, 12, 13] (by decide +kernel) (by decide +kernel)
set_option maxRecDepth 20000 in
theorem gX0_openLeast_X0_isOpen : GoodIn wsX0_openLeast (wsV RX0 28 RX0 yX0_isOpen wsX0_isOpen) := goodIn_app (goodIn_of _ (by decide +kernel)) ggX0_openLeast_X0_isOpen
set_option maxRecDepth 20000 in
theorem ggX0_isOpen_X4_isTransaction : GoodIn wsX0_isOpen wsX4_isTransaction := goodIn_r _ [4] (by decide +kernel) (by decide +kernel)
set_option maxRecDepth 20000 in
theorem gX0_isOpen_X4_isTransaction_n32 : GoodIn wsX0_isOpen (wsX4_isTransaction) := ggX0_isOpen_X4_isTransaction
set_option maxRecDepth 20000 in
theorem ggX0_holderOf_X4_isKey : GoodIn wsX0_holderOf wsX4_isKey := goodIn_r _ [4] (by decide +kernel) (by decide +kernel)
set_option maxRecDepth 20000 in
theorem gX0_holderOf_X4_isKey_n35 : GoodIn wsX0_holderOf (wsX4_isKey) := ggX0_holderOf_X4_isKey
set_option maxRecDepth 20000 in
theorem ggX0_committedValue_X4_isKey : GoodIn wsX0_committedValue wsX4_isKey := goodIn_r _ [4] (by decide +kernel) (by decide +kernel)
set_option maxRecDepth 20000 in
theorem gX0_committedValue_X4_isKey_n35 : GoodIn wsX0_committedValue (wsX4_isKey) := ggX0_committedValue_X4_isKey
set_option maxRecDepth 20000 in
theorem ggX0_valueFor_X4_isKey : GoodIn wsX0_valueFor wsX4_isKey := goodIn_r _ [6] (by decide +kernel) (by decide +kernel)
set_option maxRecDepth 20000 in
theorem gX0_valueFor_X4_isKey_n35 : GoodIn wsX0_valueFor (wsX4_isKey) := ggX0_valueFor_X4_isKey
set_option maxRecDepth 20000 in
theorem ggX0_setCommitted_X4_isKey : GoodIn wsX0_setCommitted wsX4_isKey := goodIn_r _ [4] (by decide +kernel) (by decide +kernel)
set_option maxRecDepth 20000 in
theorem gX0_setCommitted_X4_isKey_n35 : GoodIn wsX0_setCommitted (wsX4_isKey) := ggX0_setCommitted_X4_isKey
set_option maxRecDepth 20000 in
theorem ggX0_change_X4_isTransaction : GoodIn wsX0_change wsX4_isTransaction := goodIn_r _ [6] (by decide +kernel) (by decide +kernel)
set_option maxRecDepth 20000 in
theorem gX0_change_X4_isTransaction_n32 : GoodIn wsX0_change (wsX4_isTransaction) := ggX0_change_X4_isTransaction
set_option maxRecDepth 20000 in
theorem ggX0_change_X4_isKey : GoodIn wsX0_change wsX4_isKey := goodIn_r _ [8] (by decide +kernel) (by decide +kernel)
set_option maxRecDepth 20000 in
theorem gX0_change_X4_isKey_n35 : GoodIn wsX0_change (wsX4_isKey) := ggX0_change_X4_isKey
set_option maxRecDepth 20000 in
theorem ggX0_close_X0_isOpen : GoodIn wsX0_close wsX0_isOpen := goodIn_r _ [9, 4, 10, 11, 12, 13, 14, 15, 16] (by decide +kernel) (by decide +kernel)
set_option maxRecDepth 20000 in
theorem gX0_close_X0_isOpen : GoodIn wsX0_close (wsV RX0 28 RX0 yX0_isOpen wsX0_isOpen) := goodIn_app (goodIn_of _ (by decide +kernel)) ggX0_close_X0_isOpen
set_option maxRecDepth 20000 in
theorem ggX1_findCheckpoint_X1_lookAt : GoodIn wsX1_findCheckpoint wsX1_lookAt := goodIn_r _ [7, 8, 9, 10, 6, 11, 12, 13, 14, 15, 16, 17, 18, 19, 20, 21, 22, 23, 24, 25, 26, 27, 28, 29, 30, 31, 32, 33, 34, 35, 36, 37, 38, 39, 40, 65, 66, 67, 68, 69, 70] (by decide +kernel) (by decide +kernel)
set_option maxRecDepth 20000 in
theorem gX1_findCheckpoint_X1_lookAt : GoodIn wsX1_findCheckpoint (wsV RX1 22 RX1 yX1_lookAt wsX1_lookAt) := goodIn_app (goodIn_of _ (by decide +kernel)) ggX1_findCheckpoint_X1_lookAt
set_option maxRecDepth 20000 in
theorem ggX1_findCheckpoint_X3_size : GoodIn wsX1_findCheckpoint wsX3_size := goodIn_r _ [44, 17, 69, 70] (by decide +kernel) (by decide +kernel)
set_option maxRecDepth 20000 in
theorem gX1_findCheckpoint_X3_size : GoodIn wsX1_findCheckpoint (wsV RX1 29 RX3 yX3_size wsX3_size) := goodIn_app (goodIn_of _ (by decide +kernel)) ggX1_findCheckpoint_X3_size
set_option maxRecDepth 20000 in
theorem ggX1_findCheckpoint_X1_pagesFrom : GoodIn wsX1_findCheckpoint wsX1_pagesFrom := goodIn_r _ [48, 12, 13, 14, 15, 16, 17, 18, 49, 50, 51, 6, 52, 8, 53, 54, 55, 56, 32, 33, 34, 35, 31, 57, 58, 59, 60, 69, 70, 65, 66, 67, 68] (by decide +kernel) (by decide +kernel)
set_option maxRecDepth 20000 in
theorem gX1_findCheckpoint_X1_pagesFrom : GoodIn wsX1_findCheckpoint (wsV RX1 35 RX1 yX1_pagesFrom wsX1_pagesFrom) := goodIn_app (goodIn_of _ (by decide +kernel)) ggX1_findCheckpoint_X1_pagesFrom
set_option maxRecDepth 20000 in
theorem ggX1_findCheckpoint_X3_serialOf : GoodIn wsX1_findCheckpoint wsX3_serialOf := goodIn_r _ [56, 32, 33, 34, 15, 35, 31, 13, 14, 16, 17, 18, 69, 70] (by decide +kernel) (by decide +kernel)
set_option maxRecDepth 20000 in
theorem gX1_findCheckpoint_X3_serialOf : GoodIn wsX1_findCheckpoint (wsV RX1 39 RX3 yX3_serialOf wsX3_serialOf) := goodIn_app (goodIn_of _ (by decide +kernel)) ggX1_findCheckpoint_X3_serialOf
set_option maxRecDepth 20000 in
theorem ggX1_findCheckpoint_X1_isLater : GoodIn wsX1_findCheckpoint wsX1_isLater := goodIn_r _ [63, 64] (by decide +kernel) (by decide +kernel)
set_option maxRecDepth 20000 in
theorem gX1_findCheckpoint_X1_isLater : GoodIn wsX1_findCheckpoint (va_wsS RX1 43 yX1_isLater wsX1_isLater) := goodIn_app (goodIn_of _ (by decide +kernel)) ggX1_findCheckpoint_X1_isLater
set_option maxRecDepth 20000 in
theorem ggX1_readPages_X1_readPage : GoodIn wsX1_readPages wsX1_readPage := goodIn_r _ [7, 8, 9, 10, 11, 12, 13, 14, 15, 16, 17, 18, 19, 20, 21, 22, 23, 24, 25, 26, 27, 28, 37, 38, 39, 40, 41, 42] (by decide +kernel) (by decide +kernel)
set_option maxRecDepth 20000 in
theorem gX1_readPages_X1_readPage : GoodIn wsX1_readPages (va_wsS RX1 47 yX1_readPage wsX1_readPage) := goodIn_app (goodIn_of _ (by decide +kernel)) ggX1_readPages_X1_readPage
set_option maxRecDepth 20000 in
theorem ggX1_readPages_X3_behind : GoodIn wsX1_readPages wsX3_behind := goodIn_r _ [32, 13, 37, 38] (by decide +kernel) (by decide +kernel)
set_option maxRecDepth 20000 in
theorem gX1_readPages_X3_behind : GoodIn wsX1_readPages (wsV RX1 51 RX3 yX3_behind wsX3_behind) := goodIn_app (goodIn_of _ (by decide +kernel)) ggX1_readPages_X3_behind
set_option maxRecDepth 20000 in
theorem ggX1_goOverRun_X3_size : GoodIn wsX1_goOverRun wsX3_size := goodIn_r _ [6, 7, 62, 63] (by decide +kernel) (by decide +kernel)
set_option maxRecDepth 20000 in
theorem gX1_goOverRun_X3_size : GoodIn wsX1_goOverRun (wsV RX1 29 RX3 yX3_size wsX3_size) := goodIn_app (goodIn_of _ (by decide +kernel)) ggX1_goOverRun_X3_size
set_option maxRecDepth 20000 in
theorem ggX1_goOverRun_X3_behind : GoodIn wsX1_goOverRun wsX3_behind := goodIn_r _ [11, 7, 62, 63] (by decide +kernel) (by decide +kernel)
set_option maxRecDepth 20000 in
theorem gX1_goOverRun_X3_behind : GoodIn wsX1_goOverRun (wsV RX1 51 RX3 yX3_behind wsX3_behind) := goodIn_app (goodIn_of _ (by decide +kernel)) ggX1_goOverRun_X3_behind
set_option maxRecDepth 20000 in
theorem ggX1_goOverRun_X1_isTelling : GoodIn wsX1_goOverRun wsX1_isTelling := goodIn_r _ [16, 17, 58, 59, 60, 61] (by decide +kernel) (by decide +kernel)
set_option maxRecDepth 20000 in
theorem gX1_goOverRun_X1_isTelling : GoodIn wsX1_goOverRun (wsV RX1 54 RX1 yX1_isTelling wsX1_isTelling) := goodIn_app (goodIn_of _ (by decide +kernel)) ggX1_goOverRun_X1_isTelling
set_option maxRecDepth 20000 in
theorem ggX1_goOverRun_X3_serialOf : GoodIn wsX1_goOverRun wsX3_serialOf := goodIn_r _ [21, 22, 23, 24, 5, 25, 26, 27, 28, 29, 7, 30, 62, 63] (by decide +kernel) (by decide +kernel)
set_option maxRecDepth 20000 in
theorem gX1_goOverRun_X3_serialOf : GoodIn wsX1_goOverRun (wsV RX1 39 RX3 yX3_serialOf wsX3_serialOf) := goodIn_app (goodIn_of _ (by decide +kernel)) ggX1_goOverRun_X3_serialOf
set_option maxRecDepth 20000 in
theorem ggX1_goOverRun_X3_byteOf : GoodIn wsX1_goOverRun wsX3_byteOf := goodIn_r _ [29, 7, 30, 62, 63] (by decide +kernel) (by decide +kernel)
set_option maxRecDepth 20000 in
theorem gX1_goOverRun_X3_byteOf : GoodIn wsX1_goOverRun (wsV RX1 58 RX3 yX3_byteOf wsX3_byteOf) := goodIn_app (goodIn_of _ (by decide +kernel)) ggX1_goOverRun_X3_byteOf
set_option maxRecDepth 20000 in
theorem ggX1_goOverRun_X1_goOverLog : GoodIn wsX1_goOverRun wsX1_goOverLog := goodIn_r _ [34, 31, 27, 28, 5, 29, 7, 30, 35, 23, 24, 25, 26, 36, 37, 38, 39, 40, 41, 42, 43, 44, 45, 46, 47, 48, 49, 50, 51, 52, 53, 54, 55, 56, 57, 62, 63, 64, 65, 66, 67] (by decide +kernel) (by decide +kernel)
set_option maxRecDepth 20000 in
theorem gX1_goOverRun_X1_goOverLog : GoodIn wsX1_goOverRun (va_wsS RX1 62 yX1_goOverLog wsX1_goOverLog) := goodIn_app (goodIn_of _ (by decide +kernel)) ggX1_goOverRun_X1_goOverLog
set_option maxRecDepth 20000 in
theorem ggX1_lookAt_X1_isLog : GoodIn wsX1_lookAt wsX1_isLog := goodIn_r _ [5, 6, 7, 8, 9, 10, 11, 12, 13, 14, 15, 16, 17, 39, 40] (by decide +kernel) (by decide +kernel)
set_option maxRecDepth 20000 in
theorem gX1_lookAt_X1_isLog : GoodIn wsX1_lookAt (va_wsS RX1 65 yX1_isLog wsX1_isLog) := goodIn_app (goodIn_of _ (by decide +kernel)) ggX1_lookAt_X1_isLog
set_option maxRecDepth 20000 in
theorem ggX1_lookAt_X1_isPage : GoodIn wsX1_lookAt wsX1_isPage := goodIn_r _ [20, 6, 7, 8, 9, 10, 11, 12, 16, 14, 17, 39, 40] (by decide +kernel) (by decide +kernel)
set_option maxRecDepth 20000 in
theorem gX1_lookAt_X1_isPage : GoodIn wsX1_lookAt (va_wsS RX1 69 yX1_isPage wsX1_isPage) := goodIn_app (goodIn_of _ (by decide +kernel)) ggX1_lookAt_X1_isPage
set_option maxRecDepth 20000 in
theorem ggX1_lookAt_X3_isSound : GoodIn wsX1_lookAt wsX3_isSound := goodIn_r _ [24, 25, 7, 8, 9, 10, 11, 12, 26, 27, 28, 29, 30, 31, 32, 33, 34, 39, 40] (by decide +kernel) (by decide +kernel)
set_option maxRecDepth 20000 in
theorem gX1_lookAt_X3_isSound : GoodIn wsX1_lookAt (wsV RX1 72 RX3 yX3_isSound wsX3_isSound) := goodIn_app (goodIn_of _ (by decide +kernel)) ggX1_lookAt_X3_isSound
set_option maxRecDepth 20000 in
theorem ggX1_pagesFrom_X3_byteOf : GoodIn wsX1_pagesFrom wsX3_byteOf := goodIn_r _ [5, 6, 7, 27, 28] (by decide +kernel) (by decide +kernel)
set_option maxRecDepth 20000 in
theorem gX1_pagesFrom_X3_byteOf : GoodIn wsX1_pagesFrom (wsV RX1 58 RX3 yX3_byteOf wsX3_byteOf) := goodIn_app (goodIn_of _ (by decide +kernel)) ggX1_pagesFrom_X3_byteOf
set_option maxRecDepth 20000 in
theorem ggX1_pagesFrom_X1_isTelling : GoodIn wsX1_pagesFrom wsX1_isTelling := goodIn_r _ [12, 13, 29, 30, 31, 32] (by decide +kernel) (by decide +kernel)
set_option maxRecDepth 20000 in
theorem gX1_pagesFrom_X1_isTelling : GoodIn wsX1_pagesFrom (wsV RX1 54 RX1 yX1_isTelling wsX1_isTelling) := goodIn_app (goodIn_of _ (by decide +kernel)) ggX1_pagesFrom_X1_isTelling
set_option maxRecDepth 20000 in
theorem ggX1_pagesFrom_X3_serialOf : GoodIn wsX1_pagesFrom wsX3_serialOf := goodIn_r _ [17, 18, 19, 20, 4, 21, 22, 2, 3, 5, 6, 7, 27, 28] (by decide +kernel) (by decide +kernel)
set_option maxRecDepth 20000 in
theorem gX1_pagesFrom_X3_serialOf : GoodIn wsX1_pagesFrom (wsV RX1 39 RX3 yX3_serialOf wsX3_serialOf) := goodIn_app (goodIn_of _ (by decide +kernel)) ggX1_pagesFrom_X3_serialOf
set_option maxRecDepth 20000 in
theorem ggX1_pagesFrom_X3_behind : GoodIn wsX1_pagesFrom wsX3_behind := goodIn_r _ [26, 6, 27, 28] (by decide +kernel) (by decide +kernel)
set_option maxRecDepth 20000 in
theorem gX1_pagesFrom_X3_behind : GoodIn wsX1_pagesFrom (wsV RX1 51 RX3 yX3_behind wsX3_behind) := goodIn_app (goodIn_of _ (by decide +kernel)) ggX1_pagesFrom_X3_behind
set_option maxRecDepth 20000 in
theorem ggX1_isLog_X3_byteOf : GoodIn wsX1_isLog wsX3_byteOf := goodIn_r _ [5, 6, 7, 13, 14] (by decide +kernel) (by decide +kernel)
set_option maxRecDepth 20000 in
theorem gX1_isLog_X3_byteOf : GoodIn wsX1_isLog (wsV RX1 58 RX3 yX3_byteOf wsX3_byteOf) := goodIn_app (goodIn_of _ (by decide +kernel)) ggX1_isLog_X3_byteOf
set_option maxRecDepth 20000 in
theorem ggX1_isLog_X4_isTransaction : GoodIn wsX1_isLog wsX4_isTransaction := goodIn_r _ [10] (by decide +kernel) (by decide +kernel)
set_option maxRecDepth 20000 in
theorem gX1_isLog_X4_isTransaction_n77 : GoodIn wsX1_isLog (wsX4_isTransaction) := ggX1_isLog_X4_isTransaction
set_option maxRecDepth 20000 in
theorem ggX1_isLog_X4_isKey : GoodIn wsX1_isLog wsX4_isKey := goodIn_r _ [12] (by decide +kernel) (by decide +kernel)
set_option maxRecDepth 20000 in
theorem gX1_isLog_X4_isKey_n80 : GoodIn wsX1_isLog (wsX4_isKey) := ggX1_isLog_X4_isKey
set_option maxRecDepth 20000 in
theorem ggX1_isPage_X3_byteOf : GoodIn wsX1_isPage wsX3_byteOf := goodIn_r _ [5, 6, 7, 11, 12] (by decide +kernel) (by decide +kernel)
set_option maxRecDepth 20000 in
theorem gX1_isPage_X3_byteOf : GoodIn wsX1_isPage (wsV RX1 58 RX3 yX3_byteOf wsX3_byteOf) := goodIn_app (goodIn_of _ (by decide +kernel)) ggX1_isPage_X3_byteOf
set_option maxRecDepth 20000 in
theorem ggX1_isPage_X4_isKey : GoodIn wsX1_isPage wsX4_isKey := goodIn_r _ [10] (by decide +kernel) (by decide +kernel)
set_option maxRecDepth 20000 in
theorem gX1_isPage_X4_isKey_n80 : GoodIn wsX1_isPage (wsX4_isKey) := ggX1_isPage_X4_isKey
set_option maxRecDepth 20000 in
theorem ggX1_readPage_X3_byteOf : GoodIn wsX1_readPage wsX3_byteOf := goodIn_r _ [5, 6, 7, 22, 23] (by decide +kernel) (by decide +kernel)
set_option maxRecDepth 20000 in
theorem gX1_readPage_X3_byteOf : GoodIn wsX1_readPage (wsV RX1 58 RX3 yX3_byteOf wsX3_byteOf) := goodIn_app (goodIn_of _ (by decide +kernel)) ggX1_readPage_X3_byteOf
set_option maxRecDepth 20000 in
theorem ggX1_readPage_X3_numberOf : GoodIn wsX1_readPage wsX3_numberOf := goodIn_r _ [11, 12, 2, 3, 4, 5, 6, 7, 22, 23] (by decide +kernel) (by decide +kernel)
set_option maxRecDepth 20000 in
theorem gX1_readPage_X3_numberOf : GoodIn wsX1_readPage (wsV RX1 83 RX3 yX3_numberOf wsX3_numberOf) := goodIn_app (goodIn_of _ (by decide +kernel)) ggX1_readPage_X3_numberOf
set_option maxRecDepth 20000 in
theorem ggX1_readPage_X0_setCommitted : GoodIn wsX1_readPage wsX0_setCommitted := goodIn_r _ [17, 18, 19, 20, 21, 24, 25, 26, 27] (by decide +kernel) (by decide +kernel)
set_option maxRecDepth 20000 in
theorem gX1_readPage_X0_setCommitted : GoodIn wsX1_readPage (wsV RX1 87 RX0 yX0_setCommitted wsX0_setCommitted) := goodIn_app (goodIn_of _ (by decide +kernel)) ggX1_readPage_X0_setCommitted
set_option maxRecDepth 20000 in
theorem ggX1_goOverLog_X3_byteOf : GoodIn wsX1_goOverLog wsX3_byteOf := goodIn_r _ [5, 6, 7, 35, 36] (by decide +kernel) (by decide +kernel)
set_option maxRecDepth 20000 in
theorem gX1_goOverLog_X3_byteOf : GoodIn wsX1_goOverLog (wsV RX1 58 RX3 yX3_byteOf wsX3_byteOf) := goodIn_app (goodIn_of _ (by decide +kernel)) ggX1_goOverLog_X3_byteOf
set_option maxRecDepth 20000 in
theorem ggX1_goOverLog_X3_numberOf : GoodIn wsX1_goOverLog wsX3_numberOf := goodIn_r _ [11, 12, 2, 3, 4, 5, 6, 7, 35, 36] (by decide +kernel) (by decide +kernel)
set_option maxRecDepth 20000 in
theorem gX1_goOverLog_X3_numberOf : GoodIn wsX1_goOverLog (wsV RX1 83 RX3 yX3_numberOf wsX3_numberOf) := goodIn_app (goodIn_of _ (by decide +kernel)) ggX1_goOverLog_X3_numberOf
set_option maxRecDepth 20000 in
theorem ggX1_goOverLog_X0_change : GoodIn wsX1_goOverLog wsX0_change := goodIn_r _ [17, 18, 19, 20, 21, 22, 23, 24, 25, 37, 38, 39, 40] (by decide +kernel) (by decide +kernel)
set_option maxRecDepth 20000 in
theorem gX1_goOverLog_X0_change : GoodIn wsX1_goOverLog (wsV RX1 93 RX0 yX0_change wsX0_change) := goodIn_app (goodIn_of _ (by decide +kernel)) ggX1_goOverLog_X0_change
set_option maxRecDepth 20000 in
theorem ggX1_goOverLog_X0_close : GoodIn wsX1_goOverLog wsX0_close := goodIn_r _ [29, 19, 30, 20, 18, 31, 32, 33, 16, 34, 21, 22, 23, 37, 38, 39, 40] (by decide +kernel) (by decide +kernel)
set_option maxRecDepth 20000 in
theorem gX1_goOverLog_X0_close : GoodIn wsX1_goOverLog (wsV RX1 97 RX0 yX0_close wsX0_close) := goodIn_app (goodIn_of _ (by decide +kernel)) ggX1_goOverLog_X0_close
set_option maxRecDepth 20000 in
theorem ggX2_init_X3_init : GoodIn wsX2_init wsX3_init := goodIn_r _ [15, 16, 2, 3, 17, 18, 19, 20, 21, 22, 23, 24, 25, 26, 80, 81] (by decide +kernel) (by decide +kernel)
set_option maxRecDepth 20000 in
theorem gX2_init_X3_init : GoodIn wsX2_init (wsX3_init) := ggX2_init_X3_init
set_option maxRecDepth 20000 in
theorem ggX2_init_X2_beginAnew : GoodIn wsX2_init wsX2_beginAnew := goodIn_r _ [31, 11, 32, 33, 34, 35, 36, 37, 10, 38, 26, 39, 40, 41, 42, 43, 44, 45, 46, 24, 47, 48, 49, 50, 51, 52, 53, 54, 55, 56, 57, 58, 59, 60, 61, 62, 63, 30, 64, 65, 66, 67, 68, 69, 70, 71, 72, 73, 74, 75, 76, 77, 78, 79, 80, 81] (by decide +kernel) (by decide +kernel)
set_option maxRecDepth 20000 in
theorem gX2_init_X2_beginAnew : GoodIn wsX2_init (wsV RX2 33 RX2 yX2_beginAnew wsX2_beginAnew) := goodIn_app (goodIn_of _ (by decide +kernel)) ggX2_init_X2_beginAnew
set_option maxRecDepth 20000 in
theorem ggX2_beginAnew_X3_clear : GoodIn wsX2_beginAnew wsX3_clear := goodIn_r _ [9, 10, 54, 55] (by decide +kernel) (by decide +kernel)
set_option maxRecDepth 20000 in
theorem gX2_beginAnew_X3_clear : GoodIn wsX2_beginAnew (wsV RX2 36 RX3 yX3_clear wsX3_clear) := goodIn_app (goodIn_of _ (by decide +kernel)) ggX2_beginAnew_X3_clear
set_option maxRecDepth 20000 in
theorem ggX2_beginAnew_X3_prepare : GoodIn wsX2_beginAnew wsX3_prepare := goodIn_r _ [14, 15, 16, 17, 8, 18, 19, 10, 20, 21, 22, 23, 54, 55] (by decide +kernel) (by decide +kernel)
set_option maxRecDepth 20000 in
theorem gX2_beginAnew_X3_prepare : GoodIn wsX2_beginAnew (wsV RX2 39 RX3 yX3_prepare wsX3_prepare) := goodIn_app (goodIn_of _ (by decide +kernel)) ggX2_beginAnew_X3_prepare
set_option maxRecDepth 20000 in
theorem ggX2_beginAnew_X3_setByte : GoodIn wsX2_beginAnew wsX3_setByte := goodIn_r _ [18, 19, 10, 54, 55] (by decide +kernel) (by decide +kernel)
set_option maxRecDepth 20000 in
theorem gX2_beginAnew_X3_setByte : GoodIn wsX2_beginAnew (wsV RX2 43 RX3 yX3_setByte wsX3_setByte) := goodIn_app (goodIn_of _ (by decide +kernel)) ggX2_beginAnew_X3_setByte
set_option maxRecDepth 20000 in
theorem ggX2_beginAnew_X3_seal : GoodIn wsX2_beginAnew wsX3_seal := goodIn_r _ [28, 29, 30, 31, 8, 32, 19, 10, 33, 20, 21, 22, 23, 15, 16, 17, 18, 54, 55] (by decide +kernel) (by decide +kernel)
set_option maxRecDepth 20000 in
theorem gX2_beginAnew_X3_seal : GoodIn wsX2_beginAnew (wsV RX2 47 RX3 yX3_seal wsX3_seal) := goodIn_app (goodIn_of _ (by decide +kernel)) ggX2_beginAnew_X3_seal
set_option maxRecDepth 20000 in
theorem ggX2_beginAnew_X2_forgetMemory : GoodIn wsX2_beginAnew wsX2_forgetMemory := goodIn_r _ [38, 39, 40, 41, 42, 43, 44, 45, 46, 47, 48, 49, 50, 51, 52, 53] (by decide +kernel) (by decide +kernel)
set_option maxRecDepth 20000 in
theorem gX2_beginAnew_X2_forgetMemory : GoodIn wsX2_beginAnew (wsV RX2 60 RX2 yX2_forgetMemory wsX2_forgetMemory) := goodIn_app (goodIn_of _ (by decide +kernel)) ggX2_beginAnew_X2_forgetMemory
set_option maxRecDepth 20000 in
theorem ggX2_needed_X3_stepsBetween : GoodIn wsX2_needed wsX3_stepsBetween := goodIn_r _ [8, 9, 22, 23] (by decide +kernel) (by decide +kernel)
set_option maxRecDepth 20000 in
theorem gX2_needed_X3_stepsBetween : GoodIn wsX2_needed (wsV RX2 69 RX3 yX3_stepsBetween wsX3_stepsBetween) := goodIn_app (goodIn_of _ (by decide +kernel)) ggX2_needed_X3_stepsBetween
set_option maxRecDepth 20000 in
theorem ggX2_hasRoom_X2_needed : GoodIn wsX2_hasRoom wsX2_needed := goodIn_r _ [6, 1, 7, 8, 9, 10, 11, 12, 13, 14, 19, 20, 21, 22, 23, 24, 25, 26, 27, 28, 29, 30, 31, 32] (by decide +kernel) (by decide +kernel)
set_option maxRecDepth 20000 in
theorem gX2_hasRoom_X2_needed : GoodIn wsX2_hasRoom (wsV RX2 73 RX2 yX2_needed wsX2_needed) := goodIn_app (goodIn_of _ (by decide +kernel)) ggX2_hasRoom_X2_needed
set_option maxRecDepth 20000 in
theorem ggX2_hasRoom_X3_size : GoodIn wsX2_hasRoom wsX3_size := goodIn_r _ [18, 14, 31, 32] (by decide +kernel) (by decide +kernel)
set_option maxRecDepth 20000 in
theorem gX2_hasRoom_X3_size : GoodIn wsX2_hasRoom (wsV RX2 77 RX3 yX3_size wsX3_size) := goodIn_app (goodIn_of _ (by decide +kernel)) ggX2_hasRoom_X3_size
set_option maxRecDepth 20000 in
theorem ggX2_canTakeEntry_X2_hasRoom : GoodIn wsX2_canTakeEntry wsX2_hasRoom := goodIn_r _ [6, 7, 8, 9, 10, 5, 11, 12, 13, 14, 15, 16, 17, 18, 19, 20, 21, 22, 23, 24, 25, 26, 27, 28, 29, 30, 31, 32, 33, 34, 35, 36, 37] (by decide +kernel) (by decide +kernel)
set_option maxRecDepth 20000 in
theorem gX2_canTakeEntry_X2_hasRoom : GoodIn wsX2_canTakeEntry (wsV RX2 80 RX2 yX2_hasRoom wsX2_hasRoom) := goodIn_app (goodIn_of _ (by decide +kernel)) ggX2_canTakeEntry_X2_hasRoom
set_option maxRecDepth 20000 in
theorem ggX2_takeEntry_X2_writeLog : GoodIn wsX2_takeEntry wsX2_writeLog := goodIn_r _ [9, 1, 10, 11, 12, 2, 3, 4, 13, 14, 15, 8, 16, 17, 18, 19, 20, 21, 22, 23, 24, 25, 26, 27, 28, 29, 30, 31, 32, 33, 34, 35, 36, 37, 38, 39, 40, 41, 42, 43, 44, 45, 46, 47, 48, 49, 50, 51, 52, 53, 54, 55, 56, 57, 58, 59, 60, 61, 62, 63] (by decide +kernel) (by decide +kernel)
set_option maxRecDepth 20000 in
theorem gX2_takeEntry_X2_writeLog : GoodIn wsX2_takeEntry (wsV RX2 84 RX2 yX2_writeLog wsX2_writeLog) := goodIn_app (goodIn_of _ (by decide +kernel)) ggX2_takeEntry_X2_writeLog
set_option maxRecDepth 20000 in
theorem ggX2_writeLog_X2_goToNext : GoodIn wsX2_writeLog wsX2_goToNext := goodIn_r _ [12, 4, 13, 3, 14, 15, 16, 17, 18, 19, 20, 21, 46, 47, 48, 49, 50, 51, 52, 53, 54, 55, 56, 57, 58, 59] (by decide +kernel) (by decide +kernel)
set_option maxRecDepth 20000 in
theorem gX2_writeLog_X2_goToNext : GoodIn wsX2_writeLog (wsV RX2 87 RX2 yX2_goToNext wsX2_goToNext) := goodIn_app (goodIn_of _ (by decide +kernel)) ggX2_writeLog_X2_goToNext
set_option maxRecDepth 20000 in
theorem ggX2_writeLog_X3_prepare : GoodIn wsX2_writeLog wsX3_prepare := goodIn_r _ [25, 26, 27, 28, 19, 29, 21, 30, 31, 32, 33, 34, 58, 59] (by decide +kernel) (by decide +kernel)
set_option maxRecDepth 20000 in
theorem gX2_writeLog_X3_prepare : GoodIn wsX2_writeLog (wsV RX2 39 RX3 yX3_prepare wsX3_prepare) := goodIn_app (goodIn_of _ (by decide +kernel)) ggX2_writeLog_X3_prepare
set_option maxRecDepth 20000 in
theorem ggX2_writeLog_X3_setByte : GoodIn wsX2_writeLog wsX3_setByte := goodIn_r _ [29, 21, 30, 58, 59] (by decide +kernel) (by decide +kernel)
set_option maxRecDepth 20000 in
theorem gX2_writeLog_X3_setByte : GoodIn wsX2_writeLog (wsV RX2 43 RX3 yX3_setByte wsX3_setByte) := goodIn_app (goodIn_of _ (by decide +kernel)) ggX2_writeLog_X3_setByte
set_option maxRecDepth 20000 in
theorem ggX2_writeLog_X3_setNumber : GoodIn wsX2_writeLog wsX3_setNumber := goodIn_r _ [34, 26, 27, 28, 19, 29, 21, 30, 58, 59] (by decide +kernel) (by decide +kernel)
set_option maxRecDepth 20000 in
theorem gX2_writeLog_X3_setNumber : GoodIn wsX2_writeLog (wsV RX2 90 RX3 yX3_setNumber wsX3_setNumber) := goodIn_app (goodIn_of _ (by decide +kernel)) ggX2_writeLog_X3_setNumber
set_option maxRecDepth 20000 in
theorem ggX2_writeLog_X3_seal : GoodIn wsX2_writeLog wsX3_seal := goodIn_r _ [40, 41, 42, 43, 19, 44, 21, 30, 45, 31, 32, 33, 34, 26, 27, 28, 29, 58, 59] (by decide +kernel) (by decide +kernel)
set_option maxRecDepth 20000 in
theorem gX2_writeLog_X3_seal : GoodIn wsX2_writeLog (wsV RX2 47 RX3 yX3_seal wsX3_seal) := goodIn_app (goodIn_of _ (by decide +kernel)) ggX2_writeLog_X3_seal
set_option maxRecDepth 20000 in
theorem ggX2_writePages_X0_nextWithValue : GoodIn wsX2_writePages wsX0_nextWithValue := goodIn_r _ [8, 9, 10, 11, 12, 13, 76, 77, 78, 79] (by decide +kernel) (by decide +kernel)
set_option maxRecDepth 20000 in
theorem gX2_writePages_X0_nextWithValue : GoodIn wsX2_writePages (wsV RX2 93 RX0 yX0_nextWithValue wsX0_nextWithValue) := goodIn_app (goodIn_of _ (by decide +kernel)) ggX2_writePages_X0_nextWithValue
set_option maxRecDepth 20000 in
theorem ggX2_writePages_X2_goToNext : GoodIn wsX2_writePages wsX2_goToNext := goodIn_r _ [18, 19, 20, 1, 21, 22, 23, 24, 25, 26, 27, 28, 64, 65, 66, 67, 68, 69, 70, 71, 72, 73, 74, 75, 80, 81] (by decide +kernel) (by decide +kernel)
set_option maxRecDepth 20000 in
theorem gX2_writePages_X2_goToNext : GoodIn wsX2_writePages (wsV RX2 87 RX2 yX2_goToNext wsX2_goToNext) := goodIn_app (goodIn_of _ (by decide +kernel)) ggX2_writePages_X2_goToNext
set_option maxRecDepth 20000 in
theorem ggX2_writePages_X2_writePairs : GoodIn wsX2_writePages wsX2_writePairs := goodIn_r _ [32, 3, 1, 19, 33, 34, 35, 26, 36, 37, 38, 39, 40, 28, 41, 42, 43, 44, 45, 46, 47, 48, 49, 7, 50, 13, 51, 52, 53, 54, 4, 5, 6, 8, 9, 10, 11, 12, 64, 65, 66, 67, 68, 69, 70, 71, 72, 73, 74, 75, 80, 81, 76, 77, 78, 79] (by decide +kernel) (by decide +kernel)
set_option maxRecDepth 20000 in
theorem gX2_writePages_X2_writePairs : GoodIn wsX2_writePages (wsV RX2 102 RX2 yX2_writePairs wsX2_writePairs) := goodIn_app (goodIn_of _ (by decide +kernel)) ggX2_writePages_X2_writePairs
set_option maxRecDepth 20000 in
theorem ggX2_writePages_X3_setByte : GoodIn wsX2_writePages wsX3_setByte := goodIn_r _ [40, 28, 41, 80, 81] (by decide +kernel) (by decide +kernel)
set_option maxRecDepth 20000 in
theorem gX2_writePages_X3_setByte : GoodIn wsX2_writePages (wsV RX2 43 RX3 yX3_setByte wsX3_setByte) := goodIn_app (goodIn_of _ (by decide +kernel)) ggX2_writePages_X3_setByte
set_option maxRecDepth 20000 in
theorem ggX2_writePages_X3_seal : GoodIn wsX2_writePages wsX3_seal := goodIn_r _ [58, 59, 60, 61, 26, 62, 28, 41, 63, 42, 43, 44, 45, 37, 38, 39, 40, 80, 81] (by decide +kernel) (by decide +kernel)
set_option maxRecDepth 20000 in
theorem gX2_writePages_X3_seal : GoodIn wsX2_writePages (wsV RX2 47 RX3 yX3_seal wsX3_seal) := goodIn_app (goodIn_of _ (by decide +kernel)) ggX2_writePages_X3_seal
set_option maxRecDepth 20000 in
theorem ggX2_putAllOnDisk_X2_putOnDisk : GoodIn wsX2_putAllOnDisk wsX2_putOnDisk := goodIn_r _ [8, 9, 10, 11, 12, 13, 14, 15, 16, 17, 18, 19, 20, 21, 22, 23, 24, 25, 26, 27, 28, 29, 30, 31, 32, 33, 34, 35, 36, 37, 38, 39, 40, 41, 42, 43, 44] (by decide +kernel) (by decide +kernel)
set_option maxRecDepth 20000 in
theorem gX2_putAllOnDisk_X2_putOnDisk : GoodIn wsX2_putAllOnDisk (wsV RX2 106 RX2 yX2_putOnDisk wsX2_putOnDisk) := goodIn_app (goodIn_of _ (by decide +kernel)) ggX2_putAllOnDisk_X2_putOnDisk
set_option maxRecDepth 20000 in
theorem ggX2_loseMemory_X2_putOnDisk : GoodIn wsX2_loseMemory wsX2_putOnDisk := goodIn_r _ [8, 9, 2, 3, 10, 11, 12, 13, 14, 15, 16, 17, 18, 19, 20, 21, 22, 23, 24, 25, 26, 27, 28, 35, 36, 37, 38, 39, 40, 41, 42, 43, 44, 45, 46, 47, 48] (by decide +kernel) (by decide +kernel)
set_option maxRecDepth 20000 in
theorem gX2_loseMemory_X2_putOnDisk : GoodIn wsX2_loseMemory (wsV RX2 106 RX2 yX2_putOnDisk wsX2_putOnDisk) := goodIn_app (goodIn_of _ (by decide +kernel)) ggX2_loseMemory_X2_putOnDisk
set_option maxRecDepth 20000 in
theorem ggX2_loseMemory_X3_copyStart : GoodIn wsX2_loseMemory wsX3_copyStart := goodIn_r _ [14, 15, 16, 17, 13, 18, 19, 20, 21, 22, 23, 24, 47, 48] (by decide +kernel) (by decide +kernel)
set_option maxRecDepth 20000 in
theorem gX2_loseMemory_X3_copyStart : GoodIn wsX2_loseMemory (wsV RX2 109 RX3 yX3_copyStart wsX3_copyStart) := goodIn_app (goodIn_of _ (by decide +kernel)) ggX2_loseMemory_X3_copyStart
set_option maxRecDepth 20000 in
theorem ggX2_loseMemory_X2_forgetMemory : GoodIn wsX2_loseMemory wsX2_forgetMemory := goodIn_r _ [32, 33, 1, 34, 35, 36, 37, 38, 39, 40, 41, 42, 43, 44, 45, 46] (by decide +kernel) (by decide +kernel)
set_option maxRecDepth 20000 in
theorem gX2_loseMemory_X2_forgetMemory : GoodIn wsX2_loseMemory (wsV RX2 60 RX2 yX2_forgetMemory wsX2_forgetMemory) := goodIn_app (goodIn_of _ (by decide +kernel)) ggX2_loseMemory_X2_forgetMemory
set_option maxRecDepth 20000 in
theorem ggX2_goOn_X3_serialOf : GoodIn wsX2_goOn wsX3_serialOf := goodIn_r _ [9, 10, 11, 12, 8, 13, 14, 15, 16, 17, 18, 19, 32, 33] (by decide +kernel) (by decide +kernel)
set_option maxRecDepth 20000 in
theorem gX2_goOn_X3_serialOf : GoodIn wsX2_goOn (wsV RX2 113 RX3 yX3_serialOf wsX3_serialOf) := goodIn_app (goodIn_of _ (by decide +kernel)) ggX2_goOn_X3_serialOf
set_option maxRecDepth 20000 in
theorem ggX2_writePairs_X3_prepare : GoodIn wsX2_writePairs wsX3_prepare := goodIn_r _ [8, 9, 10, 11, 7, 12, 13, 14, 15, 16, 17, 18, 50, 51] (by decide +kernel) (by decide +kernel)
set_option maxRecDepth 20000 in
theorem gX2_writePairs_X3_prepare : GoodIn wsX2_writePairs (wsV RX2 39 RX3 yX3_prepare wsX3_prepare) := goodIn_app (goodIn_of _ (by decide +kernel)) ggX2_writePairs_X3_prepare
set_option maxRecDepth 20000 in
theorem ggX2_writePairs_X3_setByte : GoodIn wsX2_writePairs wsX3_setByte := goodIn_r _ [12, 13, 14, 50, 51] (by decide +kernel) (by decide +kernel)
set_option maxRecDepth 20000 in
theorem gX2_writePairs_X3_setByte : GoodIn wsX2_writePairs (wsV RX2 43 RX3 yX3_setByte wsX3_setByte) := goodIn_app (goodIn_of _ (by decide +kernel)) ggX2_writePairs_X3_setByte
set_option maxRecDepth 20000 in
theorem ggX2_writePairs_X0_committedValue : GoodIn wsX2_writePairs wsX0_committedValue := goodIn_r _ [24, 25, 26, 27, 28, 52, 53, 54, 55] (by decide +kernel) (by decide +kernel)
set_option maxRecDepth 20000 in
theorem gX2_writePairs_X0_committedValue : GoodIn wsX2_writePairs (wsV RX2 116 RX0 yX0_committedValue wsX0_committedValue) := goodIn_app (goodIn_of _ (by decide +kernel)) ggX2_writePairs_X0_committedValue
set_option maxRecDepth 20000 in
theorem ggX2_writePairs_X3_setNumber : GoodIn wsX2_writePairs wsX3_setNumber := goodIn_r _ [18, 9, 10, 11, 7, 12, 13, 14, 50, 51] (by decide +kernel) (by decide +kernel)
set_option maxRecDepth 20000 in
theorem gX2_writePairs_X3_setNumber : GoodIn wsX2_writePairs (wsV RX2 90 RX3 yX3_setNumber wsX3_setNumber) := goodIn_app (goodIn_of _ (by decide +kernel)) ggX2_writePairs_X3_setNumber
set_option maxRecDepth 20000 in
theorem ggX2_writePairs_X0_nextWithValue : GoodIn wsX2_writePairs wsX0_nextWithValue := goodIn_r _ [33, 34, 35, 36, 37, 25, 52, 53, 54, 55] (by decide +kernel) (by decide +kernel)
set_option maxRecDepth 20000 in
theorem gX2_writePairs_X0_nextWithValue : GoodIn wsX2_writePairs (wsV RX2 93 RX0 yX0_nextWithValue wsX0_nextWithValue) := goodIn_app (goodIn_of _ (by decide +kernel)) ggX2_writePairs_X0_nextWithValue
set_option maxRecDepth 20000 in
theorem ggX2_goToNext_X3_behind : GoodIn wsX2_goToNext wsX3_behind := goodIn_r _ [10, 11, 24, 25] (by decide +kernel) (by decide +kernel)
set_option maxRecDepth 20000 in
theorem gX2_goToNext_X3_behind : GoodIn wsX2_goToNext (wsV RX2 119 RX3 yX3_behind wsX3_behind) := goodIn_app (goodIn_of _ (by decide +kernel)) ggX2_goToNext_X3_behind
set_option maxRecDepth 20000 in
theorem ggX2_putOnDisk_X3_copyStart : GoodIn wsX2_putOnDisk wsX3_copyStart := goodIn_r _ [8, 9, 10, 11, 7, 12, 13, 14, 15, 16, 17, 18, 35, 36] (by decide +kernel) (by decide +kernel)
set_option maxRecDepth 20000 in
theorem gX2_putOnDisk_X3_copyStart : GoodIn wsX2_putOnDisk (wsV RX2 109 RX3 yX3_copyStart wsX3_copyStart) := goodIn_app (goodIn_of _ (by decide +kernel)) ggX2_putOnDisk_X3_copyStart
set_option maxRecDepth 20000 in
theorem ggX2_putOnDisk_X3_behind : GoodIn wsX2_putOnDisk wsX3_behind := goodIn_r _ [22, 13, 35, 36] (by decide +kernel) (by decide +kernel)
set_option maxRecDepth 20000 in
theorem gX2_putOnDisk_X3_behind : GoodIn wsX2_putOnDisk (wsV RX2 119 RX3 yX3_behind wsX3_behind) := goodIn_app (goodIn_of _ (by decide +kernel)) ggX2_putOnDisk_X3_behind
set_option maxRecDepth 20000 in
theorem ggX3_numberOf_X3_byteOf : GoodIn wsX3_numberOf wsX3_byteOf := goodIn_r _ [5, 6, 7, 8, 9] (by decide +kernel) (by decide +kernel)
set_option maxRecDepth 20000 in
theorem gX3_numberOf_X3_byteOf : GoodIn wsX3_numberOf (wsV RX3 28 RX3 yX3_byteOf wsX3_byteOf) := goodIn_app (goodIn_of _ (by decide +kernel)) ggX3_numberOf_X3_byteOf
set_option maxRecDepth 20000 in
theorem ggX3_setNumber_X3_setByte : GoodIn wsX3_setNumber wsX3_setByte := goodIn_r _ [5, 6, 7, 8, 9] (by decide +kernel) (by decide +kernel)
set_option maxRecDepth 20000 in
theorem gX3_setNumber_X3_setByte : GoodIn wsX3_setNumber (wsV RX3 31 RX3 yX3_setByte wsX3_setByte) := goodIn_app (goodIn_of _ (by decide +kernel)) ggX3_setNumber_X3_setByte
set_option maxRecDepth 20000 in
theorem ggX3_serialOf_X3_numberOf : GoodIn wsX3_serialOf wsX3_numberOf := goodIn_r _ [5, 6, 7, 8, 4, 9, 10, 11, 12, 13] (by decide +kernel) (by decide +kernel)
set_option maxRecDepth 20000 in
theorem gX3_serialOf_X3_numberOf : GoodIn wsX3_serialOf (wsV RX3 35 RX3 yX3_numberOf wsX3_numberOf) := goodIn_app (goodIn_of _ (by decide +kernel)) ggX3_serialOf_X3_numberOf
set_option maxRecDepth 20000 in
theorem ggX3_isSound_X3_byteOf : GoodIn wsX3_isSound wsX3_byteOf := goodIn_r _ [5, 6, 7, 17, 18] (by decide +kernel) (by decide +kernel)
set_option maxRecDepth 20000 in
theorem gX3_isSound_X3_byteOf : GoodIn wsX3_isSound (wsV RX3 28 RX3 yX3_byteOf wsX3_byteOf) := goodIn_app (goodIn_of _ (by decide +kernel)) ggX3_isSound_X3_byteOf
set_option maxRecDepth 20000 in
theorem ggX3_isSound_X3_numberOf : GoodIn wsX3_isSound wsX3_numberOf := goodIn_r _ [11, 1, 2, 3, 4, 5, 6, 7, 17, 18] (by decide +kernel) (by decide +kernel)
set_option maxRecDepth 20000 in
theorem gX3_isSound_X3_numberOf : GoodIn wsX3_isSound (wsV RX3 35 RX3 yX3_numberOf wsX3_numberOf) := goodIn_app (goodIn_of _ (by decide +kernel)) ggX3_isSound_X3_numberOf
set_option maxRecDepth 20000 in
theorem ggX3_isSound_X3_sumOf : GoodIn wsX3_isSound wsX3_sumOf := goodIn_r _ [15, 6, 7, 16, 17, 18] (by decide +kernel) (by decide +kernel)
set_option maxRecDepth 20000 in
theorem gX3_isSound_X3_sumOf : GoodIn wsX3_isSound (wsV RX3 39 RX3 yX3_sumOf wsX3_sumOf) := goodIn_app (goodIn_of _ (by decide +kernel)) ggX3_isSound_X3_sumOf
set_option maxRecDepth 20000 in
theorem ggX3_prepare_X3_setByte : GoodIn wsX3_prepare wsX3_setByte := goodIn_r _ [5, 6, 7, 12, 13] (by decide +kernel) (by decide +kernel)
set_option maxRecDepth 20000 in
theorem gX3_prepare_X3_setByte : GoodIn wsX3_prepare (wsV RX3 31 RX3 yX3_setByte wsX3_setByte) := goodIn_app (goodIn_of _ (by decide +kernel)) ggX3_prepare_X3_setByte
set_option maxRecDepth 20000 in
theorem ggX3_prepare_X3_setNumber : GoodIn wsX3_prepare wsX3_setNumber := goodIn_r _ [11, 1, 2, 3, 4, 5, 6, 7, 12, 13] (by decide +kernel) (by decide +kernel)
set_option maxRecDepth 20000 in
theorem gX3_prepare_X3_setNumber : GoodIn wsX3_prepare (wsV RX3 43 RX3 yX3_setNumber wsX3_setNumber) := goodIn_app (goodIn_of _ (by decide +kernel)) ggX3_prepare_X3_setNumber
set_option maxRecDepth 20000 in
theorem ggX3_seal_X3_sumOf : GoodIn wsX3_seal wsX3_sumOf := goodIn_r _ [5, 6, 7, 8, 17, 18] (by decide +kernel) (by decide +kernel)
set_option maxRecDepth 20000 in
theorem gX3_seal_X3_sumOf : GoodIn wsX3_seal (wsV RX3 39 RX3 yX3_sumOf wsX3_sumOf) := goodIn_app (goodIn_of _ (by decide +kernel)) ggX3_seal_X3_sumOf
set_option maxRecDepth 20000 in
theorem ggX3_seal_X3_setNumber : GoodIn wsX3_seal wsX3_setNumber := goodIn_r _ [12, 13, 14, 15, 4, 16, 6, 7, 17, 18] (by decide +kernel) (by decide +kernel)
set_option maxRecDepth 20000 in
theorem gX3_seal_X3_setNumber : GoodIn wsX3_seal (wsV RX3 43 RX3 yX3_setNumber wsX3_setNumber) := goodIn_app (goodIn_of _ (by decide +kernel)) ggX3_seal_X3_setNumber
set_option maxRecDepth 20000 in
theorem ggX3_copyStart_X3_byteOf : GoodIn wsX3_copyStart wsX3_byteOf := goodIn_r _ [5, 6, 7, 12, 13] (by decide +kernel) (by decide +kernel)
set_option maxRecDepth 20000 in
theorem gX3_copyStart_X3_byteOf : GoodIn wsX3_copyStart (wsV RX3 28 RX3 yX3_byteOf wsX3_byteOf) := goodIn_app (goodIn_of _ (by decide +kernel)) ggX3_copyStart_X3_byteOf
set_option maxRecDepth 20000 in
theorem ggX3_copyStart_X3_setByte : GoodIn wsX3_copyStart wsX3_setByte := goodIn_r _ [11, 6, 7, 12, 13] (by decide +kernel) (by decide +kernel)
set_option maxRecDepth 20000 in
theorem gX3_copyStart_X3_setByte : GoodIn wsX3_copyStart (wsV RX3 31 RX3 yX3_setByte wsX3_setByte) := goodIn_app (goodIn_of _ (by decide +kernel)) ggX3_copyStart_X3_setByte
set_option maxRecDepth 20000 in
theorem ggX4_init_X2_init : GoodIn wsX4_init wsX2_init := goodIn_r _ [18, 19, 2, 3, 20, 21, 22, 23, 24, 25, 26, 27, 28, 29, 30, 31, 32, 33, 34, 35, 36, 37, 38, 39, 40, 41, 42, 43, 44, 45, 6, 46, 47, 48, 49, 50, 51, 52, 53, 54, 55, 56, 57, 58, 59, 60, 61, 62, 63, 64, 65, 66, 67, 68, 69, 70, 71, 72, 73, 74, 75, 76, 77, 78, 79, 80, 81, 82, 100, 101, 102, 103, 104, 105, 106, 107, 108, 109, 110, 111, 125, 126] (by decide +kernel) (by decide +kernel)
set_option maxRecDepth 20000 in
theorem gX4_init_X2_init : GoodIn wsX4_init (wsX2_init) := ggX4_init_X2_init
set_option maxRecDepth 20000 in
theorem ggX4_init_X0_init : GoodIn wsX4_init wsX0_init := goodIn_r _ [85, 86, 2, 3, 20, 87, 88, 89, 90, 91, 92, 10, 93, 94, 117, 118, 119, 120] (by decide +kernel) (by decide +kernel)
set_option maxRecDepth 20000 in
theorem gX4_init_X0_init : GoodIn wsX4_init (wsX0_init) := ggX4_init_X0_init
set_option maxRecDepth 20000 in
theorem ggX4_init_X1_init : GoodIn wsX4_init wsX1_init := goodIn_r _ [96, 97, 2, 3, 98, 99, 121, 122, 123, 124] (by decide +kernel) (by decide +kernel)
set_option maxRecDepth 20000 in
theorem gX4_init_X1_init_n27 : GoodIn wsX4_init (wsX1_init) := ggX4_init_X1_init
set_option maxRecDepth 20000 in
theorem ggX4_begin_X0_openLeast : GoodIn wsX4_begin wsX0_openLeast := goodIn_r _ [7, 8, 9, 10, 11, 6, 12, 13, 14, 15, 21, 22, 23, 24] (by decide +kernel) (by decide +kernel)
set_option maxRecDepth 20000 in
theorem gX4_begin_X0_openLeast : GoodIn wsX4_begin (wsV RX4 36 RX0 yX0_openLeast wsX0_openLeast) := goodIn_app (goodIn_of _ (by decide +kernel)) ggX4_begin_X0_openLeast
set_option maxRecDepth 20000 in
theorem ggX4_put_X0_isOpen : GoodIn wsX4_put wsX0_isOpen := goodIn_r _ [8, 9, 10, 11, 12, 109, 110, 111, 112] (by decide +kernel) (by decide +kernel)
set_option maxRecDepth 20000 in
theorem gX4_put_X0_isOpen : GoodIn wsX4_put (wsV RX4 40 RX0 yX0_isOpen wsX0_isOpen) := goodIn_app (goodIn_of _ (by decide +kernel)) ggX4_put_X0_isOpen
set_option maxRecDepth 20000 in
theorem ggX4_put_X4_isKey : GoodIn wsX4_put wsX4_isKey := goodIn_r _ [15] (by decide +kernel) (by decide +kernel)
set_option maxRecDepth 20000 in
theorem gX4_put_X4_isKey : GoodIn wsX4_put (va_wsS RX4 44 yX4_isKey wsX4_isKey) := goodIn_app (goodIn_of _ (by decide +kernel)) ggX4_put_X4_isKey
set_option maxRecDepth 20000 in
theorem ggX4_put_X4_isValue : GoodIn wsX4_put wsX4_isValue := goodIn_r _ [18, 19] (by decide +kernel) (by decide +kernel)
set_option maxRecDepth 20000 in
theorem gX4_put_X4_isValue : GoodIn wsX4_put (va_wsS RX4 47 yX4_isValue wsX4_isValue) := goodIn_app (goodIn_of _ (by decide +kernel)) ggX4_put_X4_isValue
set_option maxRecDepth 20000 in
theorem ggX4_put_X0_holderOf : GoodIn wsX4_put wsX0_holderOf := goodIn_r _ [23, 24, 14, 11, 15, 109, 110, 111, 112] (by decide +kernel) (by decide +kernel)
set_option maxRecDepth 20000 in
theorem gX4_put_X0_holderOf : GoodIn wsX4_put (wsV RX4 50 RX0 yX0_holderOf wsX0_holderOf) := goodIn_app (goodIn_of _ (by decide +kernel)) ggX4_put_X0_holderOf
set_option maxRecDepth 20000 in
theorem ggX4_put_X2_canTakeEntry : GoodIn wsX4_put wsX2_canTakeEntry := goodIn_r _ [29, 30, 31, 32, 33, 28, 34, 35, 36, 37, 38, 39, 40, 41, 42, 43, 44, 45, 46, 47, 48, 49, 50, 51, 113, 114, 115, 116, 117, 118, 119, 120, 121, 122, 123, 124, 125, 126] (by decide +kernel) (by decide +kernel)
set_option maxRecDepth 20000 in
theorem gX4_put_X2_canTakeEntry : GoodIn wsX4_put (wsV RX4 54 RX2 yX2_canTakeEntry wsX2_canTakeEntry) := goodIn_app (goodIn_of _ (by decide +kernel)) ggX4_put_X2_canTakeEntry
set_option maxRecDepth 20000 in
theorem ggX4_put_X0_change : GoodIn wsX4_put wsX0_change := goodIn_r _ [55, 9, 24, 56, 10, 11, 12, 14, 15, 109, 110, 111, 112] (by decide +kernel) (by decide +kernel)
set_option maxRecDepth 20000 in
theorem gX4_put_X0_change : GoodIn wsX4_put (wsV RX4 58 RX0 yX0_change wsX0_change) := goodIn_app (goodIn_of _ (by decide +kernel)) ggX4_put_X0_change
set_option maxRecDepth 20000 in
theorem ggX4_put_X2_takeEntry : GoodIn wsX4_put wsX2_takeEntry := goodIn_r _ [60, 30, 61, 62, 63, 64, 65, 66, 28, 67, 68, 41, 69, 70, 71, 72, 73, 35, 74, 75, 76, 77, 78, 45, 79, 47, 80, 81, 82, 83, 84, 85, 86, 87, 88, 89, 90, 91, 92, 93, 94, 95, 96, 97, 98, 99, 100, 101, 102, 103, 113, 114, 115, 116, 117, 118, 119, 120, 121, 122, 123, 124, 125, 126] (by decide +kernel) (by decide +kernel)
set_option maxRecDepth 20000 in
theorem gX4_put_X2_takeEntry : GoodIn wsX4_put (wsV RX4 62 RX2 yX2_takeEntry wsX2_takeEntry) := goodIn_app (goodIn_of _ (by decide +kernel)) ggX4_put_X2_takeEntry
set_option maxRecDepth 20000 in
theorem ggX4_commit_X4_endTransaction : GoodIn wsX4_commit wsX4_endTransaction := goodIn_r _ [6, 7, 8, 9, 10, 11, 12, 13, 14, 15, 16, 5, 17, 18, 19, 20, 21, 22, 23, 24, 25, 26, 27, 28, 29, 30, 31, 32, 33, 34, 35, 36, 37, 38, 39, 40, 41, 42, 43, 44, 45, 46, 47, 48, 49, 50, 51, 52, 53, 54, 55, 56, 57, 58, 59, 60, 61, 62, 63, 64, 65, 66, 67, 68, 69, 70, 71, 72, 73, 74, 75, 76, 77, 78, 79, 80, 81, 82, 83, 84, 85, 86, 87, 88, 89, 90, 91, 92, 93, 94, 95, 96, 97, 98, 99, 100, 101, 102, 103, 104, 105, 106, 107, 108, 109, 110, 111, 112, 113, 114, 115, 116, 117, 118, 119, 120, 121, 122] (by decide +kernel) (by decide +kernel)
set_option maxRecDepth 20000 in
theorem gX4_commit_X4_endTransaction : GoodIn wsX4_commit (wsV RX4 66 RX4 yX4_endTransaction wsX4_endTransaction) := goodIn_app (goodIn_of _ (by decide +kernel)) ggX4_commit_X4_endTransaction
set_option maxRecDepth 20000 in
theorem ggX4_undo_X4_endTransaction : GoodIn wsX4_undo wsX4_endTransaction := goodIn_r _ [5, 6, 7, 8, 9, 10, 11, 12, 13, 14, 15, 4, 16, 17, 18, 19, 20, 21, 22, 23, 24, 25, 26, 27, 28, 29, 30, 31, 32, 33, 34, 35, 36, 37, 38, 39, 40, 41, 42, 43, 44, 45, 46, 47, 48, 49, 50, 51, 52, 53, 54, 55, 56, 57, 58, 59, 60, 61, 62, 63, 64, 65, 66, 67, 68, 69, 70, 71, 72, 73, 74, 75, 76, 77, 78, 79, 80, 81, 82, 83, 84, 85, 86, 87, 88, 89, 90, 91, 92, 93, 94, 95, 96, 97, 98, 99, 100, 101, 102, 103, 104, 105, 106, 107, 108, 109, 110, 111, 112, 113, 114, 115, 116, 117, 118, 119, 120, 121] (by decide +kernel) (by decide +kernel)
set_option maxRecDepth 20000 in
theorem gX4_undo_X4_endTransaction : GoodIn wsX4_undo (wsV RX4 66 RX4 yX4_endTransaction wsX4_endTransaction) := goodIn_app (goodIn_of _ (by decide +kernel)) ggX4_undo_X4_endTransaction
set_option maxRecDepth 20000 in
theorem ggX4_get_X0_committedValue : GoodIn wsX4_get wsX0_committedValue := goodIn_r _ [7, 8, 9, 10, 11, 17, 18, 19, 20] (by decide +kernel) (by decide +kernel)
set_option maxRecDepth 20000 in
theorem gX4_get_X0_committedValue : GoodIn wsX4_get (wsV RX4 74 RX0 yX0_committedValue wsX0_committedValue) := goodIn_app (goodIn_of _ (by decide +kernel)) ggX4_get_X0_committedValue
set_option maxRecDepth 20000 in
theorem ggX4_seen_X0_isOpen : GoodIn wsX4_seen wsX0_isOpen := goodIn_r _ [7, 8, 9, 10, 11, 26, 27, 28, 29] (by decide +kernel) (by decide +kernel)
set_option maxRecDepth 20000 in
theorem gX4_seen_X0_isOpen : GoodIn wsX4_seen (wsV RX4 40 RX0 yX0_isOpen wsX0_isOpen) := goodIn_app (goodIn_of _ (by decide +kernel)) ggX4_seen_X0_isOpen
set_option maxRecDepth 20000 in
theorem ggX4_seen_X0_valueFor : GoodIn wsX4_seen wsX0_valueFor := goodIn_r _ [15, 16, 17, 18, 19, 10, 20, 26, 27, 28, 29] (by decide +kernel) (by decide +kernel)
set_option maxRecDepth 20000 in
theorem gX4_seen_X0_valueFor : GoodIn wsX4_seen (wsV RX4 77 RX0 yX0_valueFor wsX0_valueFor) := goodIn_app (goodIn_of _ (by decide +kernel)) ggX4_seen_X0_valueFor
set_option maxRecDepth 20000 in
theorem ggX4_sync_X2_logsDue : GoodIn wsX4_sync wsX2_logsDue := goodIn_r _ [7, 8, 95, 96, 97, 98, 99, 100, 101, 102, 103, 104, 105, 106] (by decide +kernel) (by decide +kernel)
set_option maxRecDepth 20000 in
theorem gX4_sync_X2_logsDue : GoodIn wsX4_sync (wsV RX4 80 RX2 yX2_logsDue wsX2_logsDue) := goodIn_app (goodIn_of _ (by decide +kernel)) ggX4_sync_X2_logsDue
set_option maxRecDepth 20000 in
theorem ggX4_sync_X2_hasRoom : GoodIn wsX4_sync wsX2_hasRoom := goodIn_r _ [12, 13, 14, 15, 16, 6, 17, 18, 19, 20, 21, 22, 23, 24, 25, 26, 27, 28, 29, 95, 96, 97, 98, 99, 100, 101, 102, 103, 104, 105, 106, 107, 108] (by decide +kernel) (by decide +kernel)
set_option maxRecDepth 20000 in
theorem gX4_sync_X2_hasRoom : GoodIn wsX4_sync (wsV RX4 83 RX2 yX2_hasRoom wsX2_hasRoom) := goodIn_app (goodIn_of _ (by decide +kernel)) ggX4_sync_X2_hasRoom
set_option maxRecDepth 20000 in
theorem ggX4_sync_X2_writeLog : GoodIn wsX4_sync wsX2_writeLog := goodIn_r _ [33, 8, 34, 19, 35, 36, 37, 38, 39, 40, 41, 6, 42, 13, 43, 44, 45, 46, 47, 23, 48, 25, 49, 50, 51, 52, 53, 54, 55, 56, 57, 58, 59, 60, 61, 62, 63, 64, 65, 66, 67, 68, 69, 70, 71, 72, 95, 96, 97, 98, 99, 100, 101, 102, 103, 104, 105, 106, 107, 108] (by decide +kernel) (by decide +kernel)
set_option maxRecDepth 20000 in
theorem gX4_sync_X2_writeLog : GoodIn wsX4_sync (wsV RX4 86 RX2 yX2_writeLog wsX2_writeLog) := goodIn_app (goodIn_of _ (by decide +kernel)) ggX4_sync_X2_writeLog
