-- ===== the cells behind the two constructors (by program) =====
def zF0 : List Value := [.ref 1, .ref 13, .ref 16, .ref 33, .ref 41, .ref 48, .ref 55, .ref 63, .ref 66, .ref 68]
def zF1 : List Value := [.int 0, .int 0, .int 0, .int 0, .int 0, .int 0, .int 0, .ref 2, .ref 3, .ref 4, .ref 5, .ref 6, .ref 7, .ref 8, .ref 9, .ref 10, .ref 11, .ref 12]
def zF13 : List Value := [.ref 14, .ref 15, .int 0]
def zF16 : List Value := [.ref 1, .int 0, .int 0, .int 0, .ref 17, .ref 18, .ref 19, .ref 20, .ref 21, .ref 22, .ref 23, .ref 24, .ref 25, .ref 26, .ref 27, .ref 28, .ref 29, .ref 30, .ref 31, .ref 32]
def zF33 : List Value := [.ref 34, .int 0, .ref 35, .ref 36, .ref 37, .ref 38, .ref 39, .int 0, .ref 40, .int 0, .int 0, .int 0, .int 0, .ref 40, .int 0]
def zF41 : List Value := [.ref 1, .ref 16, .ref 33, .ref 42, .ref 43, .ref 44, .ref 45, .int 0, .ref 46, .ref 47]
def zF48 : List Value := [.ref 1, .ref 16, .ref 41, .ref 49, .int 0, .ref 50, .ref 51, .int 0, .ref 52, .int 0, .ref 53, .ref 54, .int 0, .int 0, .int 0, .int 0, .int 0]
def zF55 : List Value := [.ref 56, .int 0, .ref 57, .ref 58, .int 0, .ref 59, .ref 60, .ref 61, .ref 62, .int 0, .int 0, .int 0]
def zF63 : List Value := [.ref 64, .int (-1), .ref 65]
def zF66 : List Value := [.ref 67, .int 0, .int 0, .int 0, .int 0]
def zF68 : List Value := [.ref 69, .ref 70, .ref 71]
def zF72 : List Value := [.int 0, .int 0, .int 0, .ref 73, .ref 74, .ref 75, .ref 76, .ref 77, .ref 78, .ref 79, .ref 80, .int 0, .ref 81, .ref 82, .int 0, .ref 83, .ref 84, .ref 85, .ref 86, .int 0, .ref 87, .ref 88, .ref 89, .ref 90, .ref 91, .int 0, .ref 92, .ref 93, .ref 94, .ref 95, .ref 96, .ref 97, .int 0, .ref 98, .ref 99, .ref 100, .ref 101, .ref 102, .int 1, .int (-1), .ref 103, .ref 104, .ref 105, .ref 106, .ref 107, .ref 108, .ref 109, .ref 110, .ref 111, .ref 112, .ref 113, .ref 114, .int (-1), .ref 115, .int 0, .int 0, .ref 116, .ref 117, .ref 118, .ref 119, .ref 120, .ref 121, .ref 122, .ref 123, .int 0, .int 0, .int 0, .int 0, .int 0, .ref 124, .ref 125, .int 0, .ref 126, .ref 127, .ref 128, .int 0, .ref 129, .ref 130, .ref 131, .int 0, .ref 132, .int (-1), .ref 133, .int 1, .int (-1), .ref 134, .ref 135, .int 0, .ref 136, .ref 137, .ref 138, .ref 139, .ref 140, .int (-1), .int 0, .int 0, .ref 141, .ref 142, .ref 143, .ref 144, .ref 145]
def zc_0 : List aC := [.inr (11, zF0), .inr (6, zF1), .inl (0, 150, .inl (fun _ => 0)), .inl (0, 150, .inl (fun _ => 0)), .inl (0, 150, .inl (fun _ => 0)), .inl (0, 150, .inl (fun _ => 0)), .inl (0, 150, .inl (fun _ => 0)), .inl (0, 150, .inl (fun _ => 0)), .inl (0, 3600, .inl (fun _ => 0)), .inl (0, 200, .inl (fun _ => 0)), .inl (0, 200, .inl (fun _ => 0)), .inl (0, 200, .inl (fun _ => 0)), .inl (0, 200, .inl (fun _ => 0)), .inr (7, zF13), .inl (0, 12, .inl (fun _ => 0)), .inl (0, 12, .inl (fun _ => 0)), .inr (2, zF16), .inl (0, 300, .inl (fun _ => 0)), .inl (0, 300, .inl (fun _ => 0)), .inl (0, 300, .inl (fun _ => 0))]
def zc_1 : List aC := [.inl (0, 300, .inl (fun _ => 0)), .inl (0, 300, .inl (fun _ => 0)), .inl (0, 4, .inl (fun _ => 135)), .inl (0, 40, .inl (fun _ => 0)), .inl (0, 40, .inl (fun _ => 0)), .inl (0, 40, .inl (fun _ => 0)), .inl (0, 40, .inl (fun _ => 0)), .inl (0, 200, .inl (fun _ => 0)), .inl (0, 200, .inl (fun _ => 0)), .inl (0, 200, .inl (fun _ => 0)), .inl (0, 200, .inl (fun _ => 0)), .inl (0, 200, .inl (fun _ => 0)), .inl (0, 1500, .inl (fun _ => 0)), .inr (10, zF33), .inl (3, 160, .inl (fun _ => 0)), .inl (3, 2560, .inl (fun _ => 0)), .inl (0, 16, .inl (fun _ => 0)), .inl (0, 16, .inl (fun _ => 0)), .inl (0, 16, .inl (fun _ => 0)), .inl (0, 16, .inl (fun _ => 0))]
def zc_2 : List aC := [.inl (0, 13, .inl (fun _ => 0)), .inr (0, zF41), .inl (4, 10, .inr (.inr (.inr (.inr (fun _ => none))))), .inl (0, 13, .inl (fun _ => 0)), .inl (0, 8, .inl (fun _ => 0)), .inl (0, 6, .inl (fun _ => 0)), .inl (0, 1500, .inl (fun _ => 0)), .inl (0, 150, .inl (fun _ => 0)), .inr (5, zF48), .inl (0, 10, .inl (fun _ => 0)), .inl (0, 10, .inl (fun _ => 0)), .inl (0, 10, .inl (fun _ => 0)), .inl (0, 9, .inl (fun _ => 0)), .inl (0, 150, .inl (fun _ => 0)), .inl (0, 150, .inl (fun _ => 0)), .inr (4, zF55), .inl (0, 6, .inl (fun _ => 0)), .inl (0, 8, .inl (fun _ => 0)), .inl (0, 6, .inl (fun _ => 0)), .inl (0, 8, .inl (fun j => Int32.ofNat j))]
def zc_3 : List aC := [.inl (0, 8, .inl (fun _ => 0)), .inl (0, 8, .inl (fun _ => 0)), .inl (0, 6, .inl (fun _ => 0)), .inr (3, zF63), .inl (0, 48, .inl (fun _ => 0)), .inl (5, 150, .inr (.inr (.inr (.inr (fun _ => none))))), .inr (1, zF66), .inl (0, 24, .inl (fun _ => 0)), .inr (9, zF68), .inl (0, 6, .inl (fun _ => (-1))), .inl (0, 6, .inl (fun _ => 0)), .inl (1, 360, .inr (.inl (fun _ => 0))), .inr (12, zF72), .inl (0, 150, .inl (fun _ => 0)), .inl (0, 150, .inl (fun _ => 0)), .inl (0, 150, .inl (fun _ => 0)), .inl (0, 150, .inl (fun _ => 0)), .inl (0, 150, .inl (fun _ => 0)), .inl (0, 150, .inl (fun _ => 0)), .inl (0, 150, .inl (fun _ => 0))]
def zc_4 : List aC := [.inl (0, 3600, .inl (fun _ => 0)), .inl (0, 12, .inl (fun _ => 0)), .inl (0, 12, .inl (fun _ => 0)), .inl (0, 200, .inl (fun _ => 0)), .inl (0, 200, .inl (fun _ => 0)), .inl (0, 200, .inl (fun _ => 0)), .inl (0, 200, .inl (fun _ => 0)), .inl (0, 300, .inl (fun _ => 0)), .inl (0, 300, .inl (fun _ => 0)), .inl (0, 300, .inl (fun _ => 0)), .inl (0, 300, .inl (fun _ => 0)), .inl (0, 4, .inl (fun _ => 135)), .inl (0, 40, .inl (fun _ => 0)), .inl (0, 40, .inl (fun _ => 0)), .inl (0, 40, .inl (fun _ => 0)), .inl (0, 40, .inl (fun _ => 0)), .inl (0, 40, .inl (fun _ => 0)), .inl (0, 40, .inl (fun _ => 0)), .inl (0, 200, .inl (fun _ => 0)), .inl (0, 200, .inl (fun _ => 0))]
def zc_5 : List aC := [.inl (0, 200, .inl (fun _ => 0)), .inl (0, 200, .inl (fun _ => 0)), .inl (0, 200, .inl (fun _ => 0)), .inl (2, 300, .inl (fun _ => 0)), .inl (0, 300, .inl (fun _ => 0)), .inl (0, 300, .inl (fun _ => 0)), .inl (0, 300, .inl (fun _ => 0)), .inl (0, 576, .inl (fun _ => 0)), .inl (2, 576, .inl (fun _ => 0)), .inl (2, 576, .inl (fun _ => 0)), .inl (2, 576, .inl (fun _ => 0)), .inl (0, 1500, .inl (fun _ => 0)), .inl (0, 48, .inl (fun _ => 0)), .inl (0, 9000, .inl (fun _ => 0)), .inl (2, 9000, .inl (fun _ => 0)), .inl (3, 160, .inl (fun _ => 0)), .inl (0, 16, .inl (fun _ => 0)), .inl (0, 16, .inl (fun _ => 0)), .inl (0, 16, .inl (fun _ => 0)), .inl (0, 17, .inl (fun _ => 0))]
def zc_6 : List aC := [.inl (0, 1530, .inl (fun _ => 0)), .inl (0, 1530, .inl (fun _ => 0)), .inl (0, 2890, .inl (fun _ => 0)), .inl (0, 2890, .inl (fun _ => 0)), .inl (0, 13, .inl (fun _ => 0)), .inl (0, 170, .inl (fun _ => 0)), .inl (0, 8, .inl (fun _ => 0)), .inl (2, 150, .inl (fun _ => 0)), .inl (0, 6, .inl (fun _ => 0)), .inl (0, 1500, .inl (fun _ => 0)), .inl (1, 150, .inr (.inl (fun _ => 0))), .inl (1, 150, .inr (.inl (fun _ => 0))), .inl (0, 10, .inl (fun _ => 0)), .inl (0, 10, .inl (fun _ => 0)), .inl (0, 9, .inl (fun _ => 0)), .inl (2, 150, .inl (fun _ => 0)), .inl (0, 6, .inl (fun _ => 0)), .inl (0, 8, .inl (fun _ => 0)), .inl (0, 6, .inl (fun _ => 0)), .inl (0, 6, .inl (fun _ => 0))]
def zc_7 : List aC := [.inl (0, 8, .inl (fun _ => 0)), .inl (0, 24, .inl (fun _ => 0)), .inl (0, 6, .inl (fun _ => (-1))), .inl (0, 6, .inl (fun _ => 0)), .inl (1, 360, .inr (.inl (fun _ => 0))), .inl (1, 60, .inr (.inl (fun _ => 0)))]
def zH0 : aH := (zc_0 ++ (zc_1 ++ (zc_2 ++ (zc_3 ++ (zc_4 ++ (zc_5 ++ (zc_6 ++ (zc_7))))))), 58023)
theorem zh0 : zH0.1[0]? = some (.inr (11, zF0)) := rfl
theorem zh1 : zH0.1[1]? = some (.inr (6, zF1)) := rfl
theorem zh2 : zH0.1[2]? = some (.inl (0, 150, .inl (fun _ => 0))) := rfl
theorem zh3 : zH0.1[3]? = some (.inl (0, 150, .inl (fun _ => 0))) := rfl
theorem zh4 : zH0.1[4]? = some (.inl (0, 150, .inl (fun _ => 0))) := rfl
theorem zh5 : zH0.1[5]? = some (.inl (0, 150, .inl (fun _ => 0))) := rfl
theorem zh6 : zH0.1[6]? = some (.inl (0, 150, .inl (fun _ => 0))) := rfl
theorem zh7 : zH0.1[7]? = some (.inl (0, 150, .inl (fun _ => 0))) := rfl
theorem zh8 : zH0.1[8]? = some (.inl (0, 3600, .inl (fun _ => 0))) := rfl
theorem zh9 : zH0.1[9]? = some (.inl (0, 200, .inl (fun _ => 0))) := rfl
theorem zh10 : zH0.1[10]? = some (.inl (0, 200, .inl (fun _ => 0))) := rfl
theorem zh11 : zH0.1[11]? = some (.inl (0, 200, .inl (fun _ => 0))) := rfl
theorem zh12 : zH0.1[12]? = some (.inl (0, 200, .inl (fun _ => 0))) := rfl
theorem zh13 : zH0.1[13]? = some (.inr (7, zF13)) := rfl
theorem zh14 : zH0.1[14]? = some (.inl (0, 12, .inl (fun _ => 0))) := rfl
theorem zh15 : zH0.1[15]? = some (.inl (0, 12, .inl (fun _ => 0))) := rfl
theorem zh16 : zH0.1[16]? = some (.inr (2, zF16)) := rfl
theorem zh17 : zH0.1[17]? = some (.inl (0, 300, .inl (fun _ => 0))) := rfl
theorem zh18 : zH0.1[18]? = some (.inl (0, 300, .inl (fun _ => 0))) := rfl
theorem zh19 : zH0.1[19]? = some (.inl (0, 300, .inl (fun _ => 0))) := rfl
theorem zh20 : zH0.1[20]? = some (.inl (0, 300, .inl (fun _ => 0))) := rfl
theorem zh21 : zH0.1[21]? = some (.inl (0, 300, .inl (fun _ => 0))) := rfl
theorem zh22 : zH0.1[22]? = some (.inl (0, 4, .inl (fun _ => 135))) := rfl
theorem zh23 : zH0.1[23]? = some (.inl (0, 40, .inl (fun _ => 0))) := rfl
theorem zh24 : zH0.1[24]? = some (.inl (0, 40, .inl (fun _ => 0))) := rfl
theorem zh25 : zH0.1[25]? = some (.inl (0, 40, .inl (fun _ => 0))) := rfl
theorem zh26 : zH0.1[26]? = some (.inl (0, 40, .inl (fun _ => 0))) := rfl
theorem zh27 : zH0.1[27]? = some (.inl (0, 200, .inl (fun _ => 0))) := rfl
theorem zh28 : zH0.1[28]? = some (.inl (0, 200, .inl (fun _ => 0))) := rfl
theorem zh29 : zH0.1[29]? = some (.inl (0, 200, .inl (fun _ => 0))) := rfl
theorem zh30 : zH0.1[30]? = some (.inl (0, 200, .inl (fun _ => 0))) := rfl
theorem zh31 : zH0.1[31]? = some (.inl (0, 200, .inl (fun _ => 0))) := rfl
theorem zh32 : zH0.1[32]? = some (.inl (0, 1500, .inl (fun _ => 0))) := rfl
theorem zh33 : zH0.1[33]? = some (.inr (10, zF33)) := rfl
theorem zh34 : zH0.1[34]? = some (.inl (3, 160, .inl (fun _ => 0))) := rfl
theorem zh35 : zH0.1[35]? = some (.inl (3, 2560, .inl (fun _ => 0))) := rfl
theorem zh36 : zH0.1[36]? = some (.inl (0, 16, .inl (fun _ => 0))) := rfl
theorem zh37 : zH0.1[37]? = some (.inl (0, 16, .inl (fun _ => 0))) := rfl
theorem zh38 : zH0.1[38]? = some (.inl (0, 16, .inl (fun _ => 0))) := rfl
theorem zh39 : zH0.1[39]? = some (.inl (0, 16, .inl (fun _ => 0))) := rfl
theorem zh40 : zH0.1[40]? = some (.inl (0, 13, .inl (fun _ => 0))) := rfl
theorem zh41 : zH0.1[41]? = some (.inr (0, zF41)) := rfl
theorem zh42 : zH0.1[42]? = some (.inl (4, 10, .inr (.inr (.inr (.inr (fun _ => none)))))) := rfl
theorem zh43 : zH0.1[43]? = some (.inl (0, 13, .inl (fun _ => 0))) := rfl
theorem zh44 : zH0.1[44]? = some (.inl (0, 8, .inl (fun _ => 0))) := rfl
theorem zh45 : zH0.1[45]? = some (.inl (0, 6, .inl (fun _ => 0))) := rfl
theorem zh46 : zH0.1[46]? = some (.inl (0, 1500, .inl (fun _ => 0))) := rfl
theorem zh47 : zH0.1[47]? = some (.inl (0, 150, .inl (fun _ => 0))) := rfl
theorem zh48 : zH0.1[48]? = some (.inr (5, zF48)) := rfl
theorem zh49 : zH0.1[49]? = some (.inl (0, 10, .inl (fun _ => 0))) := rfl
theorem zh50 : zH0.1[50]? = some (.inl (0, 10, .inl (fun _ => 0))) := rfl
theorem zh51 : zH0.1[51]? = some (.inl (0, 10, .inl (fun _ => 0))) := rfl
theorem zh52 : zH0.1[52]? = some (.inl (0, 9, .inl (fun _ => 0))) := rfl
theorem zh53 : zH0.1[53]? = some (.inl (0, 150, .inl (fun _ => 0))) := rfl
theorem zh54 : zH0.1[54]? = some (.inl (0, 150, .inl (fun _ => 0))) := rfl
theorem zh55 : zH0.1[55]? = some (.inr (4, zF55)) := rfl
theorem zh56 : zH0.1[56]? = some (.inl (0, 6, .inl (fun _ => 0))) := rfl
theorem zh57 : zH0.1[57]? = some (.inl (0, 8, .inl (fun _ => 0))) := rfl
theorem zh58 : zH0.1[58]? = some (.inl (0, 6, .inl (fun _ => 0))) := rfl
theorem zh59 : zH0.1[59]? = some (.inl (0, 8, .inl (fun j => Int32.ofNat j))) := rfl
theorem zh60 : zH0.1[60]? = some (.inl (0, 8, .inl (fun _ => 0))) := rfl
theorem zh61 : zH0.1[61]? = some (.inl (0, 8, .inl (fun _ => 0))) := rfl
theorem zh62 : zH0.1[62]? = some (.inl (0, 6, .inl (fun _ => 0))) := rfl
theorem zh63 : zH0.1[63]? = some (.inr (3, zF63)) := rfl
theorem zh64 : zH0.1[64]? = some (.inl (0, 48, .inl (fun _ => 0))) := rfl
theorem zh65 : zH0.1[65]? = some (.inl (5, 150, .inr (.inr (.inr (.inr (fun _ => none)))))) := rfl
theorem zh66 : zH0.1[66]? = some (.inr (1, zF66)) := rfl
theorem zh67 : zH0.1[67]? = some (.inl (0, 24, .inl (fun _ => 0))) := rfl
theorem zh68 : zH0.1[68]? = some (.inr (9, zF68)) := rfl
theorem zh69 : zH0.1[69]? = some (.inl (0, 6, .inl (fun _ => (-1)))) := rfl
theorem zh70 : zH0.1[70]? = some (.inl (0, 6, .inl (fun _ => 0))) := rfl
theorem zh71 : zH0.1[71]? = some (.inl (1, 360, .inr (.inl (fun _ => 0)))) := rfl
theorem zh72 : zH0.1[72]? = some (.inr (12, zF72)) := rfl
theorem zh73 : zH0.1[73]? = some (.inl (0, 150, .inl (fun _ => 0))) := rfl
theorem zh74 : zH0.1[74]? = some (.inl (0, 150, .inl (fun _ => 0))) := rfl
theorem zh75 : zH0.1[75]? = some (.inl (0, 150, .inl (fun _ => 0))) := rfl
theorem zh76 : zH0.1[76]? = some (.inl (0, 150, .inl (fun _ => 0))) := rfl
theorem zh77 : zH0.1[77]? = some (.inl (0, 150, .inl (fun _ => 0))) := rfl
theorem zh78 : zH0.1[78]? = some (.inl (0, 150, .inl (fun _ => 0))) := rfl
theorem zh79 : zH0.1[79]? = some (.inl (0, 150, .inl (fun _ => 0))) := rfl
theorem zh80 : zH0.1[80]? = some (.inl (0, 3600, .inl (fun _ => 0))) := rfl
theorem zh81 : zH0.1[81]? = some (.inl (0, 12, .inl (fun _ => 0))) := rfl
theorem zh82 : zH0.1[82]? = some (.inl (0, 12, .inl (fun _ => 0))) := rfl
theorem zh83 : zH0.1[83]? = some (.inl (0, 200, .inl (fun _ => 0))) := rfl
theorem zh84 : zH0.1[84]? = some (.inl (0, 200, .inl (fun _ => 0))) := rfl
theorem zh85 : zH0.1[85]? = some (.inl (0, 200, .inl (fun _ => 0))) := rfl
theorem zh86 : zH0.1[86]? = some (.inl (0, 200, .inl (fun _ => 0))) := rfl
theorem zh87 : zH0.1[87]? = some (.inl (0, 300, .inl (fun _ => 0))) := rfl
theorem zh88 : zH0.1[88]? = some (.inl (0, 300, .inl (fun _ => 0))) := rfl
theorem zh89 : zH0.1[89]? = some (.inl (0, 300, .inl (fun _ => 0))) := rfl
theorem zh90 : zH0.1[90]? = some (.inl (0, 300, .inl (fun _ => 0))) := rfl
theorem zh91 : zH0.1[91]? = some (.inl (0, 4, .inl (fun _ => 135))) := rfl
theorem zh92 : zH0.1[92]? = some (.inl (0, 40, .inl (fun _ => 0))) := rfl
theorem zh93 : zH0.1[93]? = some (.inl (0, 40, .inl (fun _ => 0))) := rfl
theorem zh94 : zH0.1[94]? = some (.inl (0, 40, .inl (fun _ => 0))) := rfl
theorem zh95 : zH0.1[95]? = some (.inl (0, 40, .inl (fun _ => 0))) := rfl
theorem zh96 : zH0.1[96]? = some (.inl (0, 40, .inl (fun _ => 0))) := rfl
theorem zh97 : zH0.1[97]? = some (.inl (0, 40, .inl (fun _ => 0))) := rfl
theorem zh98 : zH0.1[98]? = some (.inl (0, 200, .inl (fun _ => 0))) := rfl
theorem zh99 : zH0.1[99]? = some (.inl (0, 200, .inl (fun _ => 0))) := rfl
theorem zh100 : zH0.1[100]? = some (.inl (0, 200, .inl (fun _ => 0))) := rfl
theorem zh101 : zH0.1[101]? = some (.inl (0, 200, .inl (fun _ => 0))) := rfl
theorem zh102 : zH0.1[102]? = some (.inl (0, 200, .inl (fun _ => 0))) := rfl
theorem zh103 : zH0.1[103]? = some (.inl (2, 300, .inl (fun _ => 0))) := rfl
theorem zh104 : zH0.1[104]? = some (.inl (0, 300, .inl (fun _ => 0))) := rfl
theorem zh105 : zH0.1[105]? = some (.inl (0, 300, .inl (fun _ => 0))) := rfl
theorem zh106 : zH0.1[106]? = some (.inl (0, 300, .inl (fun _ => 0))) := rfl
theorem zh107 : zH0.1[107]? = some (.inl (0, 576, .inl (fun _ => 0))) := rfl
theorem zh108 : zH0.1[108]? = some (.inl (2, 576, .inl (fun _ => 0))) := rfl
theorem zh109 : zH0.1[109]? = some (.inl (2, 576, .inl (fun _ => 0))) := rfl
theorem zh110 : zH0.1[110]? = some (.inl (2, 576, .inl (fun _ => 0))) := rfl
theorem zh111 : zH0.1[111]? = some (.inl (0, 1500, .inl (fun _ => 0))) := rfl
theorem zh112 : zH0.1[112]? = some (.inl (0, 48, .inl (fun _ => 0))) := rfl
theorem zh113 : zH0.1[113]? = some (.inl (0, 9000, .inl (fun _ => 0))) := rfl
theorem zh114 : zH0.1[114]? = some (.inl (2, 9000, .inl (fun _ => 0))) := rfl
theorem zh115 : zH0.1[115]? = some (.inl (3, 160, .inl (fun _ => 0))) := rfl
theorem zh116 : zH0.1[116]? = some (.inl (0, 16, .inl (fun _ => 0))) := rfl
theorem zh117 : zH0.1[117]? = some (.inl (0, 16, .inl (fun _ => 0))) := rfl
theorem zh118 : zH0.1[118]? = some (.inl (0, 16, .inl (fun _ => 0))) := rfl
theorem zh119 : zH0.1[119]? = some (.inl (0, 17, .inl (fun _ => 0))) := rfl
theorem zh120 : zH0.1[120]? = some (.inl (0, 1530, .inl (fun _ => 0))) := rfl
theorem zh121 : zH0.1[121]? = some (.inl (0, 1530, .inl (fun _ => 0))) := rfl
theorem zh122 : zH0.1[122]? = some (.inl (0, 2890, .inl (fun _ => 0))) := rfl
theorem zh123 : zH0.1[123]? = some (.inl (0, 2890, .inl (fun _ => 0))) := rfl
theorem zh124 : zH0.1[124]? = some (.inl (0, 13, .inl (fun _ => 0))) := rfl
theorem zh125 : zH0.1[125]? = some (.inl (0, 170, .inl (fun _ => 0))) := rfl
theorem zh126 : zH0.1[126]? = some (.inl (0, 8, .inl (fun _ => 0))) := rfl
theorem zh127 : zH0.1[127]? = some (.inl (2, 150, .inl (fun _ => 0))) := rfl
theorem zh128 : zH0.1[128]? = some (.inl (0, 6, .inl (fun _ => 0))) := rfl
theorem zh129 : zH0.1[129]? = some (.inl (0, 1500, .inl (fun _ => 0))) := rfl
theorem zh130 : zH0.1[130]? = some (.inl (1, 150, .inr (.inl (fun _ => 0)))) := rfl
theorem zh131 : zH0.1[131]? = some (.inl (1, 150, .inr (.inl (fun _ => 0)))) := rfl
theorem zh132 : zH0.1[132]? = some (.inl (0, 10, .inl (fun _ => 0))) := rfl
theorem zh133 : zH0.1[133]? = some (.inl (0, 10, .inl (fun _ => 0))) := rfl
theorem zh134 : zH0.1[134]? = some (.inl (0, 9, .inl (fun _ => 0))) := rfl
theorem zh135 : zH0.1[135]? = some (.inl (2, 150, .inl (fun _ => 0))) := rfl
theorem zh136 : zH0.1[136]? = some (.inl (0, 6, .inl (fun _ => 0))) := rfl
theorem zh137 : zH0.1[137]? = some (.inl (0, 8, .inl (fun _ => 0))) := rfl
theorem zh138 : zH0.1[138]? = some (.inl (0, 6, .inl (fun _ => 0))) := rfl
theorem zh139 : zH0.1[139]? = some (.inl (0, 6, .inl (fun _ => 0))) := rfl
theorem zh140 : zH0.1[140]? = some (.inl (0, 8, .inl (fun _ => 0))) := rfl
theorem zh141 : zH0.1[141]? = some (.inl (0, 24, .inl (fun _ => 0))) := rfl
theorem zh142 : zH0.1[142]? = some (.inl (0, 6, .inl (fun _ => (-1)))) := rfl
theorem zh143 : zH0.1[143]? = some (.inl (0, 6, .inl (fun _ => 0))) := rfl
theorem zh144 : zH0.1[144]? = some (.inl (1, 360, .inr (.inl (fun _ => 0)))) := rfl
theorem zh145 : zH0.1[145]? = some (.inl (1, 60, .inr (.inl (fun _ => 0)))) := rfl
theorem zH0_len : zH0.1.length = 146 := by decide +kernel
def ceqB (x y : aC) : Bool := match x, y with
  | .inr (a, f), .inr (b, g) => decide (a = b) && decide (f = g)
  | .inl (t, n, .inl f), .inl (t', n', .inl f') => decide (t = t') && decide (n = n') && (List.range n).all (fun j => decide (f j = f' j))
  | .inl (t, n, .inr (.inl f)), .inl (t', n', .inr (.inl f')) => decide (t = t') && decide (n = n') && (List.range n).all (fun j => decide (f j = f' j))
  | .inl (t, n, .inr (.inr (.inr (.inr f)))), .inl (t', n', .inr (.inr (.inr (.inr f')))) => decide (t = t') && decide (n = n') && (List.range n).all (fun j => decide (f j = f' j))
  | _, _ => false
def ceqL : List aC → List aC → Bool
  | [], [] => true
  | x :: a, y :: b => ceqB x y && ceqL a b
  | _, _ => false
theorem arrV_of {cA : ClassId} {n : Nat} {f g : Nat → Value} (h : ∀ j, j < n → f j = g j) : arrV cA n f = arrV cA n g := by
  unfold arrV
  congr 1
  apply Array.ext
  · simp
  · intro i h1 h2
    simp only [Array.size_ofFn] at h1
    simp [h i h1]
theorem ceq_all {α : Type} [DecidableEq α] {n : Nat} {f g : Nat → α} (h : (List.range n).all (fun j => decide (f j = g j)) = true) : ∀ j, j < n → f j = g j := fun j hj => of_decide_eq_true (List.all_eq_true.mp h j (List.mem_range.mpr hj))
theorem ceq_I {D : va_G} {cl : List vw_C} {b0 q t n : Nat} {ea : Nat → Nat} {cA : Nat → ClassId} {H : Heap} {f g : Nat → Int32} (h : ∀ j, j < n → f j = g j) (hx : va_at D cl (q, acc b0 ea cA (.inl (t, n, .inl f))) H) : va_at D cl (q, acc b0 ea cA (.inl (t, n, .inl g))) H := by
  have hx : H[q]? = some (vp_cell (cA t) (n, .inl f)) := hx
  have e : vp_cell (cA t) (n, .inl f) = vp_cell (cA t) (n, .inl g) := by
    show arrV (cA t) n (fun j => .int (f j)) = arrV (cA t) n (fun j => .int (g j))
    exact arrV_of (fun j hj => by rw [h j hj])
  rw [e] at hx
  exact hx
theorem ceq_J {D : va_G} {cl : List vw_C} {b0 q t n : Nat} {ea : Nat → Nat} {cA : Nat → ClassId} {H : Heap} {f g : Nat → Int64} (h : ∀ j, j < n → f j = g j) (hx : va_at D cl (q, acc b0 ea cA (.inl (t, n, .inr (.inl f)))) H) : va_at D cl (q, acc b0 ea cA (.inl (t, n, .inr (.inl g)))) H := by
  have hx : H[q]? = some (vp_cell (cA t) (n, .inr (.inl f))) := hx
  have e : vp_cell (cA t) (n, .inr (.inl f)) = vp_cell (cA t) (n, .inr (.inl g)) := by
    show arrV (cA t) n (fun j => .long (f j)) = arrV (cA t) n (fun j => .long (g j))
    exact arrV_of (fun j hj => by rw [h j hj])
  rw [e] at hx
  exact hx
theorem ceq_R {D : va_G} {cl : List vw_C} {b0 q t n : Nat} {ea : Nat → Nat} {cA : Nat → ClassId} {H : Heap} {f g : Nat → Option Nat} (h : ∀ j, j < n → f j = g j) (hx : va_at D cl (q, acc b0 ea cA (.inl (t, n, .inr (.inr (.inr (.inr f)))))) H) : va_at D cl (q, acc b0 ea cA (.inl (t, n, .inr (.inr (.inr (.inr g)))))) H := by
  have hx : H[q]? = some (vp_cell (cA t) (n, .inr (.inr (.inr (.inr (fun i => (f i).map (fun k => b0 + k))))))) := hx
  have e : vp_cell (cA t) (n, .inr (.inr (.inr (.inr (fun i => (f i).map (fun k => b0 + k)))))) = vp_cell (cA t) (n, .inr (.inr (.inr (.inr (fun i => (g i).map (fun k => b0 + k)))))) := by
    show arrV (cA t) n (fun j => va_rf ((f j).map (fun k => b0 + k))) = arrV (cA t) n (fun j => va_rf ((g j).map (fun k => b0 + k)))
    exact arrV_of (fun j hj => by rw [h j hj])
  rw [e] at hx
  exact hx
theorem ceq_at {D : va_G} {cl : List vw_C} {b0 q : Nat} {ea : Nat → Nat} {cA : Nat → ClassId} {H : Heap} {x y : aC} (h : ceqB x y = true) (hx : va_at D cl (q, acc b0 ea cA x) H) : va_at D cl (q, acc b0 ea cA y) H := by
  unfold ceqB at h
  split at h
  · simp only [Bool.and_eq_true, decide_eq_true_eq] at h
    obtain ⟨rfl, rfl⟩ := h
    exact hx
  · obtain ⟨h, h3⟩ := (Bool.and_eq_true _ _).mp h
    obtain ⟨h1, h2⟩ := (Bool.and_eq_true _ _).mp h
    have h1 := of_decide_eq_true h1
    have h2 := of_decide_eq_true h2
    subst h1
    subst h2
    exact ceq_I (ceq_all h3) hx
  · obtain ⟨h, h3⟩ := (Bool.and_eq_true _ _).mp h
    obtain ⟨h1, h2⟩ := (Bool.and_eq_true _ _).mp h
    have h1 := of_decide_eq_true h1
    have h2 := of_decide_eq_true h2
    subst h1
    subst h2
    exact ceq_J (ceq_all h3) hx
  · obtain ⟨h, h3⟩ := (Bool.and_eq_true _ _).mp h
    obtain ⟨h1, h2⟩ := (Bool.and_eq_true _ _).mp h
    have h1 := of_decide_eq_true h1
    have h2 := of_decide_eq_true h2
    subst h1
    subst h2
    exact ceq_R (ceq_all h3) hx
  · cases h
theorem ceqL_get : ∀ {σ σ' : List aC}, ceqL σ σ' = true → σ.length = σ'.length ∧ ∀ (k : Nat) (y : aC), σ'[k]? = some y → ∃ x, σ[k]? = some x ∧ ceqB x y = true
  | [], [], _ => ⟨rfl, fun k y h => by simp at h⟩
  | x :: a, y :: b, h => by
    obtain ⟨h1, h2⟩ := (Bool.and_eq_true _ _).mp h
    obtain ⟨g1, g2⟩ := ceqL_get h2
    refine ⟨by simp [g1], fun k z hz => ?_⟩
    match k, hz with
    | 0, hz => cases hz; exact ⟨x, rfl, h1⟩
    | k + 1, hz => exact g2 k z hz
theorem ceqL_P {D : va_G} {cl : List vw_C} {b0 : Nat} {ea : Nat → Nat} {cA : Nat → ClassId} {H : Heap} {σ σ' : List aC} (h : ceqL σ σ' = true) (hP : va_P D cl (awd b0 ea cA σ) H) : va_P D cl (awd b0 ea cA σ') H := by
  intro k q hq
  obtain ⟨g1, g2⟩ := ceqL_get h
  simp only [awd, List.getElem?_mapIdx, Option.map_eq_some_iff] at hq
  obtain ⟨y, hy, rfl⟩ := hq
  obtain ⟨x, hx, hxy⟩ := g2 k y hy
  exact ceq_at hxy (hP k _ (awd_get hx))
theorem aSW_ceq {Γ : aGm} {pc : Nat} {L : aL} {st : List Value} {h h' : aH} (hc : ceqL h.1 h'.1 = true) (hs : h.2 = h'.2) (k : aSW Γ pc L st h') : aSW Γ pc L st h := by
  obtain ⟨p, l, e, R, s, m, args, below, meth, c, Q, cc, nL, b0, n0, u0, own, kind, D, cA, ea, X⟩ := Γ
  intro H locs ls cells slots e1 e2 hP hS hl
  exact k H locs ls cells slots (e1.trans (ceqL_get hc).1) (e2.trans hs) (ceqL_P hc hP) hS hl
def zX0 : aX := fun _ => none
def zb (a : Nat) (h : aH) : aH := (h.1 ++ [.inr (a, (List.range (zN a)).map (fun c => defaultValue (zY a c)))], h.2 + zN a)
def zr1 : Option aR := arun zX0 3000 10 zM136 0 (aE zM136.2.2.2.1 [.ref 0]) [] (zb 11 ([], 0))
def zr2 : Option aR := match zr1 with
  | some q => arun zX0 3000 10 zM195 0 (aE zM195.2.2.2.1 [.ref 72]) [] (zb 12 q.2)
  | none => none
def zchkH : Bool := match zr1 with
  | some (none, h1) => Nat.beq h1.1.length 72 && Nat.ble h1.2 100000 && (match zr2 with
    | some (none, h2) => decide (h2.2 = zH0.2) && ceqL h2.1 zH0.1
    | _ => false)
  | _ => false
theorem zchkH_ok : zchkH = true := by decide +kernel
theorem zinit : ∃ h1 h2 : aH, zr1 = some (none, h1) ∧ zr2 = some (none, h2) ∧ h1.1.length = 72 ∧ h2.2 = zH0.2 ∧ ceqL h2.1 zH0.1 = true := by
  have h := zchkH_ok
  unfold zchkH at h
  split at h
  · rename_i h1 e1
    obtain ⟨h, h4⟩ := (Bool.and_eq_true _ _).mp h
    obtain ⟨h2, h3⟩ := (Bool.and_eq_true _ _).mp h
    split at h4
    · rename_i h5 e2
      obtain ⟨g1, g2⟩ := (Bool.and_eq_true _ _).mp h4
      exact ⟨h1, h5, e1, e2, Nat.eq_of_beq_eq_true h2, of_decide_eq_true g1, g2⟩
    · cases h4
  · cases h
