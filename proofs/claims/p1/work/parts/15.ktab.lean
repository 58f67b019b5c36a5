/-! Tables: where the words on fields stand; the constants of the program (written by genk.py) -/
/-- where the words on the fields of each class stand in lw_tbl -/
def pm_uwp : List (List Nat) := [[352, 354, 356, 358, 360, 362, 364, 366, 368, 370], [162, 164, 166, 168, 170], [308, 310, 312, 314, 316, 318, 320, 322, 324, 326, 328], [213, 215, 217, 219, 221, 223, 225, 227, 229, 231, 233, 235, 237, 239, 241, 243], [274, 276, 278, 280, 282, 284, 286, 288, 290], [384, 386, 388, 390, 392, 394, 396, 398, 400, 402, 404], [1401, 1403, 1405, 1407, 1409, 1411, 1413, 1415, 1417, 1419, 1421, 1423, 1425, 1427, 1429, 1431, 1433, 1435, 1437, 1439, 1441, 1443, 1445, 1447, 1449, 1451, 1453, 1455, 1457, 1459, 1461, 1463, 1465, 1467, 1469, 1471, 1473, 1475, 1477, 1479, 1481, 1483, 1485, 1487, 1489, 1491, 1493, 1495, 1497, 1499, 1501, 1503, 1505, 1507, 1509, 1511, 1513, 1515, 1517, 1519, 1521, 1523, 1525, 1527]]
/-- statics that hold a constant: owner, name, type, its number -/
def pm_kst : List (String × String × String × Nat) := [("QuietChecker$Kind", "NAME", "LQuietChecker$Kind;", 1000), ("QuietChecker$Kind", "NUMBER", "LQuietChecker$Kind;", 1001), ("QuietChecker$Kind", "WRONG", "LQuietChecker$Kind;", 1002), ("QuietChecker$Kind", "END", "LQuietChecker$Kind;", 1003), ("QuietChecker$Kind", "PUB", "LQuietChecker$Kind;", 1004), ("QuietChecker$Kind", "SEC", "LQuietChecker$Kind;", 1005), ("QuietChecker$Kind", "FUN", "LQuietChecker$Kind;", 1006), ("QuietChecker$Kind", "RETURN", "LQuietChecker$Kind;", 1007), ("QuietChecker$Kind", "IF", "LQuietChecker$Kind;", 1008), ("QuietChecker$Kind", "ELSE", "LQuietChecker$Kind;", 1009), ("QuietChecker$Kind", "WHILE", "LQuietChecker$Kind;", 1010), ("QuietChecker$Kind", "SKIP", "LQuietChecker$Kind;", 1011), ("QuietChecker$Kind", "OR", "LQuietChecker$Kind;", 1012), ("QuietChecker$Kind", "XOR", "LQuietChecker$Kind;", 1013), ("QuietChecker$Kind", "AND", "LQuietChecker$Kind;", 1014), ("QuietChecker$Kind", "EQUAL", "LQuietChecker$Kind;", 1015), ("QuietChecker$Kind", "UNEQUAL", "LQuietChecker$Kind;", 1016), ("QuietChecker$Kind", "LESS", "LQuietChecker$Kind;", 1017), ("QuietChecker$Kind", "AT_MOST", "LQuietChecker$Kind;", 1018), ("QuietChecker$Kind", "SHIFT_LEFT", "LQuietChecker$Kind;", 1019), ("QuietChecker$Kind", "SHIFT_RIGHT", "LQuietChecker$Kind;", 1020), ("QuietChecker$Kind", "PLUS", "LQuietChecker$Kind;", 1021), ("QuietChecker$Kind", "MINUS", "LQuietChecker$Kind;", 1022), ("QuietChecker$Kind", "TIMES", "LQuietChecker$Kind;", 1023), ("QuietChecker$Kind", "OVER", "LQuietChecker$Kind;", 1024), ("QuietChecker$Kind", "REST", "LQuietChecker$Kind;", 1025), ("QuietChecker$Kind", "INVERT", "LQuietChecker$Kind;", 1026), ("QuietChecker$Kind", "NOT", "LQuietChecker$Kind;", 1027), ("QuietChecker$Kind", "ASK", "LQuietChecker$Kind;", 1028), ("QuietChecker$Kind", "COLON", "LQuietChecker$Kind;", 1029), ("QuietChecker$Kind", "ASSIGN", "LQuietChecker$Kind;", 1030), ("QuietChecker$Kind", "OPEN", "LQuietChecker$Kind;", 1031), ("QuietChecker$Kind", "CLOSE", "LQuietChecker$Kind;", 1032), ("QuietChecker$Kind", "OPEN_CELL", "LQuietChecker$Kind;", 1033), ("QuietChecker$Kind", "CLOSE_CELL", "LQuietChecker$Kind;", 1034), ("QuietChecker$Kind", "OPEN_BLOCK", "LQuietChecker$Kind;", 1035), ("QuietChecker$Kind", "CLOSE_BLOCK", "LQuietChecker$Kind;", 1036), ("QuietChecker$Kind", "SEMICOLON", "LQuietChecker$Kind;", 1037), ("QuietChecker$Kind", "COMMA", "LQuietChecker$Kind;", 1038), ("QuietChecker$Kind", "ALL", "[LQuietChecker$Kind;", 2000)]
/-- fields of constants -/
def pm_kfn : List (String × String × String) := [("QuietChecker$Kind", "spelling", "Ljava/lang/String;"), ("QuietChecker$Kind", "level", "I"), ("QuietChecker$Kind", "op", "I"), ("java/lang/String", "value", "[B"), ("java/lang/String", "coder", "B")]
/-- constants that are objects: number, class -/
def pm_kob : List (Nat × String) := [(1000, "QuietChecker$Kind"), (1001, "QuietChecker$Kind"), (1002, "QuietChecker$Kind"), (1003, "QuietChecker$Kind"), (1004, "QuietChecker$Kind"), (1005, "QuietChecker$Kind"), (1006, "QuietChecker$Kind"), (1007, "QuietChecker$Kind"), (1008, "QuietChecker$Kind"), (1009, "QuietChecker$Kind"), (1010, "QuietChecker$Kind"), (1011, "QuietChecker$Kind"), (1012, "QuietChecker$Kind"), (1013, "QuietChecker$Kind"), (1014, "QuietChecker$Kind"), (1015, "QuietChecker$Kind"), (1016, "QuietChecker$Kind"), (1017, "QuietChecker$Kind"), (1018, "QuietChecker$Kind"), (1019, "QuietChecker$Kind"), (1020, "QuietChecker$Kind"), (1021, "QuietChecker$Kind"), (1022, "QuietChecker$Kind"), (1023, "QuietChecker$Kind"), (1024, "QuietChecker$Kind"), (1025, "QuietChecker$Kind"), (1026, "QuietChecker$Kind"), (1027, "QuietChecker$Kind"), (1028, "QuietChecker$Kind"), (1029, "QuietChecker$Kind"), (1030, "QuietChecker$Kind"), (1031, "QuietChecker$Kind"), (1032, "QuietChecker$Kind"), (1033, "QuietChecker$Kind"), (1034, "QuietChecker$Kind"), (1035, "QuietChecker$Kind"), (1036, "QuietChecker$Kind"), (1037, "QuietChecker$Kind"), (1038, "QuietChecker$Kind")]
/-- what the fields of constants hold: number, field, value -/
def pm_kof : List (Nat × Nat × Value) := [(1000, 1, .int 0), (1000, 2, .int 0), (1001, 1, .int 0), (1001, 2, .int 0), (1002, 1, .int 0), (1002, 2, .int 0), (1003, 1, .int 0), (1003, 2, .int 0), (1004, 1, .int 0), (1004, 2, .int 0), (1005, 1, .int 0), (1005, 2, .int 0), (1006, 1, .int 0), (1006, 2, .int 0), (1007, 1, .int 0), (1007, 2, .int 0), (1008, 1, .int 0), (1008, 2, .int 0), (1009, 1, .int 0), (1009, 2, .int 0), (1010, 1, .int 0), (1010, 2, .int 0), (1011, 1, .int 0), (1011, 2, .int 0), (1012, 1, .int 1), (1012, 2, .int 16), (1013, 1, .int 2), (1013, 2, .int 17), (1014, 1, .int 3), (1014, 2, .int 18), (1015, 1, .int 4), (1015, 2, .int 19), (1016, 1, .int 4), (1016, 2, .int 20), (1017, 1, .int 5), (1017, 2, .int 21), (1018, 1, .int 5), (1018, 2, .int 22), (1019, 1, .int 6), (1019, 2, .int 23), (1020, 1, .int 6), (1020, 2, .int 24), (1021, 1, .int 7), (1021, 2, .int 25), (1022, 1, .int 7), (1022, 2, .int 26), (1023, 1, .int 8), (1023, 2, .int 27), (1024, 1, .int 8), (1024, 2, .int 28), (1025, 1, .int 8), (1025, 2, .int 29), (1026, 1, .int 0), (1026, 2, .int 0), (1027, 1, .int 0), (1027, 2, .int 0), (1028, 1, .int 0), (1028, 2, .int 0), (1029, 1, .int 0), (1029, 2, .int 0), (1030, 1, .int 0), (1030, 2, .int 0), (1031, 1, .int 0), (1031, 2, .int 0), (1032, 1, .int 0), (1032, 2, .int 0), (1033, 1, .int 0), (1033, 2, .int 0), (1034, 1, .int 0), (1034, 2, .int 0), (1035, 1, .int 0), (1035, 2, .int 0), (1036, 1, .int 0), (1036, 2, .int 0), (1037, 1, .int 0), (1037, 2, .int 0), (1038, 1, .int 0), (1038, 2, .int 0)]
/-- statics by owner and place in its pool: (place, which of pm_kst, where the word stands) -/
def pm_gsl : List (List (Nat × Nat × Nat)) := [
  [],
  [],
  [(39, 3, 295), (76, 6, 563), (125, 5, 576), (128, 4, 577), (131, 0, 590), (157, 33, 664), (164, 37, 639), (174, 1, 757), (177, 34, 766), (196, 35, 636), (205, 7, 800), (215, 36, 783), (227, 31, 608), (230, 32, 610), (233, 38, 621), (251, 8, 770), (257, 10, 791), (270, 30, 768), (286, 9, 785), (295, 28, 762), (298, 29, 764), (307, 24, 758), (310, 25, 760)],
  [],
  [(58, 2, 472), (62, 3, 544), (88, 1, 474), (107, 0, 534)],
  [],
  [],
  [(3, 0, 649), (16, 4, 559), (19, 5, 561), (22, 6, 553), (28, 8, 650), (34, 10, 652), (37, 11, 654), (70, 22, 703), (82, 26, 705), (85, 27, 707)],
  [],
  [],
  [],
  [],
  []]
/-- fields of constants by owner and place in its pool: (place, which of pm_kfn, where the word stands) -/
def pm_kfl : List (List (Nat × Nat × Nat)) := [
  [],
  [],
  [(304, 1, 1804), (313, 2, 1805)],
  [],
  [(94, 0, 1803)],
  [],
  [],
  [],
  [(9, 3, 1227), (15, 4, 1228)],
  [],
  [],
  [],
  []]
/-- the cells of the class: numbers 0 .. 38 -/
def pm_swC : List (Nat × Nat) := [(15, 0), (2, 3000), (13, 0), (2, 3000), (11, 0), (1, 40), (1, 40), (3, 40), (1, 40), (1, 40), (11, 0), (1, 6), (1, 6), (3, 6), (1, 6), (1, 6), (3, 72), (1, 3000), (1, 3000), (12, 0), (14, 0), (5, 3001), (1, 3001), (1, 3001), (1, 3001), (11, 0), (1, 12), (1, 12), (3, 12), (1, 2560), (1, 2560), (10, 0), (1, 2632), (1, 4000), (1, 3000), (10, 0), (1, 2632), (1, 4000), (1, 3000)]
/-- the cells of the model: numbers 0 .. 34 -/
def pm_swM : List (Nat × Nat) := [(16, 0), (2, 3000), (2, 3000), (1, 40), (1, 40), (1, 40), (1, 40), (1, 40), (3, 40), (3, 12), (3, 6), (1, 12), (1, 12), (1, 6), (1, 6), (1, 6), (1, 6), (1, 6), (3, 72), (1, 12000), (1, 12000), (1, 12000), (1, 2560), (1, 2560), (1, 4001), (1, 4000), (1, 40), (1, 2560), (1, 2560), (1, 4001), (1, 2000), (1, 2000), (1, 2000), (1, 2000), (1, 2000)]
/-- the model's references to its arrays: slot, cell -/
def pm_rfM : List (Nat × Nat) := [(1, 1), (2, 2), (21, 3), (22, 4), (23, 5), (24, 6), (25, 7), (26, 8), (27, 9), (28, 10), (29, 11), (30, 12), (31, 13), (32, 14), (33, 15), (34, 16), (35, 17), (36, 18), (39, 19), (40, 20), (41, 21), (45, 22), (46, 23), (47, 24), (48, 25), (49, 26), (55, 27), (56, 28), (57, 29), (59, 30), (60, 31), (61, 32), (62, 33), (63, 34)]
/-- calls of System.arraycopy: owner, place in its pool, where the word stands -/
def pm_acl : List (Nat × Nat × Nat) := [(5, 99, 947), (0, 33, 953), (3, 60, 429), (8, 212, 1139), (10, 150, 1085)]
def pm_acp : Nat × Nat × Nat := (431, 430, 116)
def pm_mLength : Nat := 164
def pm_mCharAt : Nat := 165
/-- the kinds' spellings -/
def pm_spl : List (List Int32) := [[], [], [], [], [112, 117, 98], [115, 101, 99], [102, 117, 110], [114, 101, 116, 117, 114, 110], [105, 102], [101, 108, 115, 101], [119, 104, 105, 108, 101], [115, 107, 105, 112], [124], [94], [38], [61, 61], [33, 61], [60], [60, 61], [60, 60], [62, 62], [43], [45], [42], [47], [37], [126], [33], [63], [58], [61], [40], [41], [91], [93], [123], [125], [59], [44]]
