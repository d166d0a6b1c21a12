/-! ===== tables: all methods; their tables are right (by program) ===== -/
def gML : List gMt := [gt0, gt1, gt2, gt3, gt4, gt5, gt6, gt7, gt8, gt9, gt10, gt11, gt12, gt13, gt14, gt15, gt16, gt17, gt18, gt19, gt20, gt21, gt22, gt23, gt24, gt25, gt26, gt27, gt28, gt29, gt30, gt31, gt32, gt33, gt34, gt35, gt36, gt37, gt38, gt39, gt40, gt41, gt42, gt43, gt44, gt45, gt46, gt47, gt48, gt49, gt50, gt51, gt52, gt53, gt54, gt55, gt56, gt57, gt58, gt59, gt60, gt61, gt62, gt63, gt64, gt65, gt66, gt67, gt68, gt69, gt70, gt71, gt72, gt73, gt74, gt75, gt76, gt77, gt78, gt79, gt80, gt81, gt82, gt83, gt84, gt85, gt86, gt87, gt88, gt89, gt90, gt91, gt92, gt93, gt94, gt95, gt96, gt97, gt98, gt99, gt100, gt101, gt102, gt103, gt104, gt105, gt106, gt107, gt108, gt109, gt110, gt111, gt112, gt113, gt114, gt115, gt116, gt117, gt118, gt119, gt120, gt121, gt122, gt123, gt124, gt125, gt126, gt127, gt128, gt129, gt130, gt131, gt132, gt133, gt134, gt135, gt136, gt137, gt138, gt139, gt140, gt141, gt142, gt143, gt144, gt145, gt146, gt147, gt148, gt149, gt150, gt151, gt152, gt153, gt154, gt155, gt156, gt157, gt158, gt159, gt160, gt161, gt162, gt163, gt164, gt165, gt166, gt167, gt168, gt169, gt170, gt171, gt172, gt173, gt174, gt175, gt176, gt177, gt178, gt179, gt180, gt181, gt182, gt183, gt184, gt185, gt186, gt187, gt188, gt189, gt190, gt191, gt192, gt193, gt194, gt195, gt196, gt197, gt198, gt199, gt200, gt201, gt202, gt203, gt204, gt205]
def gPP (y : Nat) : Option gMt := gML[y]?
theorem gcp2 : Cond.native arraycopyName ∈ gGT := gpos_in (p := 511) (by decide +kernel)
theorem gcp3 : Cond.static arraycopyName ∈ gGT := gpos_in (p := 510) (by decide +kernel)
theorem gcp4 : Cond.initialized "java/lang/System" ∈ gGT := gpos_in (p := 121) (by decide +kernel)
set_option maxRecDepth 20000 in
def qF0p : List Nat := [153, 155, 232, 239, 242, 244, 248, 298, 302, 304, 306, 308, 310, 313, 343, 345, 358, 359, 360, 361, 362, 363, 364]
set_option maxRecDepth 20000 in
theorem qF0_l : qF0.length = qF0p.length := by decide +kernel
set_option maxRecDepth 20000 in
theorem qF0_b : (qF0.zip qF0p).all (fun q => gckF gcl "DctFilter" q.1 q.2) = true := by decide +kernel
set_option maxRecDepth 20000 in
def qI0p : List Nat := [1140, 1141, 1146, 1147]
set_option maxRecDepth 20000 in
theorem qI0_l : qI0.length = qI0p.length := by decide +kernel
set_option maxRecDepth 20000 in
theorem qI0_b : (qI0.zip qI0p).all (fun q => gpos q.2 (Cond.constant "DctFilter" q.1.1 q.1.2)) = true := by decide +kernel
set_option maxRecDepth 20000 in
def qJ0p : List Nat := []
set_option maxRecDepth 20000 in
theorem qJ0_l : qJ0.length = qJ0p.length := by decide +kernel
set_option maxRecDepth 20000 in
theorem qJ0_b : (qJ0.zip qJ0p).all (fun q => gpos q.2 (Cond.constantLong "DctFilter" q.1.1 q.1.2)) = true := by decide +kernel
set_option maxRecDepth 20000 in
def qS0p : List (Nat × Nat × Bool) := [(1, 1126, true)]
set_option maxRecDepth 20000 in
theorem qS0_l : qS0.length = qS0p.length := by decide +kernel
set_option maxRecDepth 20000 in
theorem qS0_b : (qS0.zip qS0p).all (fun q => gckS gXX "DctFilter" q.1 q.2) = true := by decide +kernel
set_option maxRecDepth 20000 in
def qC0p : List (Nat × Nat × Nat) := [(145, 146, 106), (164, 165, 107), (286, 287, 109), (336, 337, 111), (384, 385, 117), (1248, 1249, 135)]
set_option maxRecDepth 20000 in
theorem qC0_l : qC0.length = qC0p.length := by decide +kernel
set_option maxRecDepth 20000 in
theorem qC0_b : (qC0.zip qC0p).all (fun q => gckC gcl gGG gXX "DctFilter" q.1 q.2) = true := by decide +kernel
set_option maxRecDepth 20000 in
def qM0p : List (Nat × Bool × Nat × Nat) := [(142, true, 0, 0), (0, false, 148, 0), (1, false, 167, 0), (288, true, 289, 0), (3, false, 339, 0), (357, true, 293, 0), (386, true, 387, 0), (501, true, 502, 503), (713, true, 714, 715), (1058, true, 837, 0), (1059, true, 0, 0), (1084, true, 1085, 1086), (1109, true, 1110, 1111), (1137, true, 1138, 0), (1142, true, 1143, 0), (1145, true, 588, 0), (1169, true, 1114, 1115), (1178, true, 1179, 1180), (1186, true, 1187, 1188), (1211, true, 1212, 1213), (1250, true, 1251, 0), (1341, true, 1342, 1343), (1347, true, 1348, 1349), (1374, true, 1375, 1376), (1396, true, 1397, 1398), (1489, true, 1490, 1491), (1493, true, 1494, 1495)]
set_option maxRecDepth 20000 in
theorem qM0_l : qM0.length = qM0p.length := by decide +kernel
set_option maxRecDepth 20000 in
theorem qM0_b : (qM0.zip qM0p).all (fun q => gckM gPP gcl gXX "DctFilter" q.1 q.2) = true := by decide +kernel
set_option maxRecDepth 20000 in
def qF1p : List Nat := [151, 154]
set_option maxRecDepth 20000 in
theorem qF1_l : qF1.length = qF1p.length := by decide +kernel
set_option maxRecDepth 20000 in
theorem qF1_b : (qF1.zip qF1p).all (fun q => gckF gcl "DctFilter$Collected" q.1 q.2) = true := by decide +kernel
set_option maxRecDepth 20000 in
def qI1p : List Nat := []
set_option maxRecDepth 20000 in
theorem qI1_l : qI1.length = qI1p.length := by decide +kernel
set_option maxRecDepth 20000 in
theorem qI1_b : (qI1.zip qI1p).all (fun q => gpos q.2 (Cond.constant "DctFilter$Collected" q.1.1 q.1.2)) = true := by decide +kernel
set_option maxRecDepth 20000 in
def qJ1p : List Nat := []
set_option maxRecDepth 20000 in
theorem qJ1_l : qJ1.length = qJ1p.length := by decide +kernel
set_option maxRecDepth 20000 in
theorem qJ1_b : (qJ1.zip qJ1p).all (fun q => gpos q.2 (Cond.constantLong "DctFilter$Collected" q.1.1 q.1.2)) = true := by decide +kernel
set_option maxRecDepth 20000 in
def qS1p : List (Nat × Nat × Bool) := []
set_option maxRecDepth 20000 in
theorem qS1_l : qS1.length = qS1p.length := by decide +kernel
set_option maxRecDepth 20000 in
theorem qS1_b : (qS1.zip qS1p).all (fun q => gckS gXX "DctFilter$Collected" q.1 q.2) = true := by decide +kernel
set_option maxRecDepth 20000 in
def qC1p : List (Nat × Nat × Nat) := []
set_option maxRecDepth 20000 in
theorem qC1_l : qC1.length = qC1p.length := by decide +kernel
set_option maxRecDepth 20000 in
theorem qC1_b : (qC1.zip qC1p).all (fun q => gckC gcl gGG gXX "DctFilter$Collected" q.1 q.2) = true := by decide +kernel
set_option maxRecDepth 20000 in
def qM1p : List (Nat × Bool × Nat × Nat) := [(150, true, 0, 0), (525, true, 526, 527)]
set_option maxRecDepth 20000 in
theorem qM1_l : qM1.length = qM1p.length := by decide +kernel
set_option maxRecDepth 20000 in
theorem qM1_b : (qM1.zip qM1p).all (fun q => gckM gPP gcl gXX "DctFilter$Collected" q.1 q.2) = true := by decide +kernel
set_option maxRecDepth 20000 in
def qF2p : List Nat := [179, 183, 186, 188, 190, 191, 193, 195, 226, 229, 231, 234, 238, 240, 243, 247, 249, 251, 252, 253, 255]
set_option maxRecDepth 20000 in
theorem qF2_l : qF2.length = qF2p.length := by decide +kernel
set_option maxRecDepth 20000 in
theorem qF2_b : (qF2.zip qF2p).all (fun q => gckF gcl "DctFilter$Picture" q.1 q.2) = true := by decide +kernel
set_option maxRecDepth 20000 in
def qI2p : List Nat := []
set_option maxRecDepth 20000 in
theorem qI2_l : qI2.length = qI2p.length := by decide +kernel
set_option maxRecDepth 20000 in
theorem qI2_b : (qI2.zip qI2p).all (fun q => gpos q.2 (Cond.constant "DctFilter$Picture" q.1.1 q.1.2)) = true := by decide +kernel
set_option maxRecDepth 20000 in
def qJ2p : List Nat := [1128, 1129, 1130]
set_option maxRecDepth 20000 in
theorem qJ2_l : qJ2.length = qJ2p.length := by decide +kernel
set_option maxRecDepth 20000 in
theorem qJ2_b : (qJ2.zip qJ2p).all (fun q => gpos q.2 (Cond.constantLong "DctFilter$Picture" q.1.1 q.1.2)) = true := by decide +kernel
set_option maxRecDepth 20000 in
def qS2p : List (Nat × Nat × Bool) := [(0, 0, false)]
set_option maxRecDepth 20000 in
theorem qS2_l : qS2.length = qS2p.length := by decide +kernel
set_option maxRecDepth 20000 in
theorem qS2_b : (qS2.zip qS2p).all (fun q => gckS gXX "DctFilter$Picture" q.1 q.2) = true := by decide +kernel
set_option maxRecDepth 20000 in
def qC2p : List (Nat × Nat × Nat) := [(170, 172, 108), (170, 0, 0)]
set_option maxRecDepth 20000 in
theorem qC2_l : qC2.length = qC2p.length := by decide +kernel
set_option maxRecDepth 20000 in
theorem qC2_b : (qC2.zip qC2p).all (fun q => gckC gcl gGG gXX "DctFilter$Picture" q.1 q.2) = true := by decide +kernel
set_option maxRecDepth 20000 in
def qM2p : List (Nat × Bool × Nat × Nat) := [(169, true, 0, 0), (2, false, 174, 0), (587, true, 588, 0), (5, false, 591, 0), (593, true, 595, 10), (597, true, 599, 11), (601, true, 293, 0), (1113, true, 1114, 1115), (1117, true, 1118, 1119), (6, false, 1124, 0), (1131, true, 1132, 0), (1134, true, 1135, 0), (1182, true, 1184, 29)]
set_option maxRecDepth 20000 in
theorem qM2_l : qM2.length = qM2p.length := by decide +kernel
set_option maxRecDepth 20000 in
theorem qM2_b : (qM2.zip qM2p).all (fun q => gckM gPP gcl gXX "DctFilter$Picture" q.1 q.2) = true := by decide +kernel
set_option maxRecDepth 20000 in
def qF3p : List Nat := [178, 182]
set_option maxRecDepth 20000 in
theorem qF3_l : qF3.length = qF3p.length := by decide +kernel
set_option maxRecDepth 20000 in
theorem qF3_b : (qF3.zip qF3p).all (fun q => gckF gcl "DctFilter$Band" q.1 q.2) = true := by decide +kernel
set_option maxRecDepth 20000 in
def qI3p : List Nat := []
set_option maxRecDepth 20000 in
theorem qI3_l : qI3.length = qI3p.length := by decide +kernel
set_option maxRecDepth 20000 in
theorem qI3_b : (qI3.zip qI3p).all (fun q => gpos q.2 (Cond.constant "DctFilter$Band" q.1.1 q.1.2)) = true := by decide +kernel
set_option maxRecDepth 20000 in
def qJ3p : List Nat := []
set_option maxRecDepth 20000 in
theorem qJ3_l : qJ3.length = qJ3p.length := by decide +kernel
set_option maxRecDepth 20000 in
theorem qJ3_b : (qJ3.zip qJ3p).all (fun q => gpos q.2 (Cond.constantLong "DctFilter$Band" q.1.1 q.1.2)) = true := by decide +kernel
set_option maxRecDepth 20000 in
def qS3p : List (Nat × Nat × Bool) := []
set_option maxRecDepth 20000 in
theorem qS3_l : qS3.length = qS3p.length := by decide +kernel
set_option maxRecDepth 20000 in
theorem qS3_b : (qS3.zip qS3p).all (fun q => gckS gXX "DctFilter$Band" q.1 q.2) = true := by decide +kernel
set_option maxRecDepth 20000 in
def qC3p : List (Nat × Nat × Nat) := []
set_option maxRecDepth 20000 in
theorem qC3_l : qC3.length = qC3p.length := by decide +kernel
set_option maxRecDepth 20000 in
theorem qC3_b : (qC3.zip qC3p).all (fun q => gckC gcl gGG gXX "DctFilter$Band" q.1 q.2) = true := by decide +kernel
set_option maxRecDepth 20000 in
def qM3p : List (Nat × Bool × Nat × Nat) := [(176, true, 0, 0)]
set_option maxRecDepth 20000 in
theorem qM3_l : qM3.length = qM3p.length := by decide +kernel
set_option maxRecDepth 20000 in
theorem qM3_b : (qM3.zip qM3p).all (fun q => gckM gPP gcl gXX "DctFilter$Band" q.1 q.2) = true := by decide +kernel
set_option maxRecDepth 20000 in
def qF4p : List Nat := [295, 296, 299, 303, 305, 307, 309, 311, 314]
set_option maxRecDepth 20000 in
theorem qF4_l : qF4.length = qF4p.length := by decide +kernel
set_option maxRecDepth 20000 in
theorem qF4_b : (qF4.zip qF4p).all (fun q => gckF gcl "DctFilter$Draft" q.1 q.2) = true := by decide +kernel
set_option maxRecDepth 20000 in
def qI4p : List Nat := []
set_option maxRecDepth 20000 in
theorem qI4_l : qI4.length = qI4p.length := by decide +kernel
set_option maxRecDepth 20000 in
theorem qI4_b : (qI4.zip qI4p).all (fun q => gpos q.2 (Cond.constant "DctFilter$Draft" q.1.1 q.1.2)) = true := by decide +kernel
set_option maxRecDepth 20000 in
def qJ4p : List Nat := []
set_option maxRecDepth 20000 in
theorem qJ4_l : qJ4.length = qJ4p.length := by decide +kernel
set_option maxRecDepth 20000 in
theorem qJ4_b : (qJ4.zip qJ4p).all (fun q => gpos q.2 (Cond.constantLong "DctFilter$Draft" q.1.1 q.1.2)) = true := by decide +kernel
set_option maxRecDepth 20000 in
def qS4p : List (Nat × Nat × Bool) := []
set_option maxRecDepth 20000 in
theorem qS4_l : qS4.length = qS4p.length := by decide +kernel
set_option maxRecDepth 20000 in
theorem qS4_b : (qS4.zip qS4p).all (fun q => gckS gXX "DctFilter$Draft" q.1 q.2) = true := by decide +kernel
set_option maxRecDepth 20000 in
def qC4p : List (Nat × Nat × Nat) := []
set_option maxRecDepth 20000 in
theorem qC4_l : qC4.length = qC4p.length := by decide +kernel
set_option maxRecDepth 20000 in
theorem qC4_b : (qC4.zip qC4p).all (fun q => gckC gcl gGG gXX "DctFilter$Draft" q.1 q.2) = true := by decide +kernel
set_option maxRecDepth 20000 in
def qM4p : List (Nat × Bool × Nat × Nat) := [(291, true, 0, 0), (292, true, 293, 0), (717, true, 718, 0), (1053, true, 588, 0), (1361, true, 837, 0)]
set_option maxRecDepth 20000 in
theorem qM4_l : qM4.length = qM4p.length := by decide +kernel
set_option maxRecDepth 20000 in
theorem qM4_b : (qM4.zip qM4p).all (fun q => gckM gPP gcl gXX "DctFilter$Draft" q.1 q.2) = true := by decide +kernel
set_option maxRecDepth 20000 in
def qF5p : List Nat := []
set_option maxRecDepth 20000 in
theorem qF5_l : qF5.length = qF5p.length := by decide +kernel
set_option maxRecDepth 20000 in
theorem qF5_b : (qF5.zip qF5p).all (fun q => gckF gcl "java/util/Arrays" q.1 q.2) = true := by decide +kernel
set_option maxRecDepth 20000 in
def qI5p : List Nat := []
set_option maxRecDepth 20000 in
theorem qI5_l : qI5.length = qI5p.length := by decide +kernel
set_option maxRecDepth 20000 in
theorem qI5_b : (qI5.zip qI5p).all (fun q => gpos q.2 (Cond.constant "java/util/Arrays" q.1.1 q.1.2)) = true := by decide +kernel
set_option maxRecDepth 20000 in
def qJ5p : List Nat := []
set_option maxRecDepth 20000 in
theorem qJ5_l : qJ5.length = qJ5p.length := by decide +kernel
set_option maxRecDepth 20000 in
theorem qJ5_b : (qJ5.zip qJ5p).all (fun q => gpos q.2 (Cond.constantLong "java/util/Arrays" q.1.1 q.1.2)) = true := by decide +kernel
set_option maxRecDepth 20000 in
def qS5p : List (Nat × Nat × Bool) := []
set_option maxRecDepth 20000 in
theorem qS5_l : qS5.length = qS5p.length := by decide +kernel
set_option maxRecDepth 20000 in
theorem qS5_b : (qS5.zip qS5p).all (fun q => gckS gXX "java/util/Arrays" q.1 q.2) = true := by decide +kernel
set_option maxRecDepth 20000 in
def qC5p : List (Nat × Nat × Nat) := []
set_option maxRecDepth 20000 in
theorem qC5_l : qC5.length = qC5p.length := by decide +kernel
set_option maxRecDepth 20000 in
theorem qC5_b : (qC5.zip qC5p).all (fun q => gckC gcl gGG gXX "java/util/Arrays" q.1 q.2) = true := by decide +kernel
set_option maxRecDepth 20000 in
def qM5p : List (Nat × Bool × Nat × Nat) := [(720, true, 721, 0), (836, true, 837, 0), (839, true, 0, 0)]
set_option maxRecDepth 20000 in
theorem qM5_l : qM5.length = qM5p.length := by decide +kernel
set_option maxRecDepth 20000 in
theorem qM5_b : (qM5.zip qM5p).all (fun q => gckM gPP gcl gXX "java/util/Arrays" q.1 q.2) = true := by decide +kernel
set_option maxRecDepth 20000 in
def qF6p : List Nat := [342, 344, 346, 347]
set_option maxRecDepth 20000 in
theorem qF6_l : qF6.length = qF6p.length := by decide +kernel
set_option maxRecDepth 20000 in
theorem qF6_b : (qF6.zip qF6p).all (fun q => gckF gcl "DctFilter$Sink" q.1 q.2) = true := by decide +kernel
set_option maxRecDepth 20000 in
def qI6p : List Nat := []
set_option maxRecDepth 20000 in
theorem qI6_l : qI6.length = qI6p.length := by decide +kernel
set_option maxRecDepth 20000 in
theorem qI6_b : (qI6.zip qI6p).all (fun q => gpos q.2 (Cond.constant "DctFilter$Sink" q.1.1 q.1.2)) = true := by decide +kernel
set_option maxRecDepth 20000 in
def qJ6p : List Nat := []
set_option maxRecDepth 20000 in
theorem qJ6_l : qJ6.length = qJ6p.length := by decide +kernel
set_option maxRecDepth 20000 in
theorem qJ6_b : (qJ6.zip qJ6p).all (fun q => gpos q.2 (Cond.constantLong "DctFilter$Sink" q.1.1 q.1.2)) = true := by decide +kernel
set_option maxRecDepth 20000 in
def qS6p : List (Nat × Nat × Bool) := []
set_option maxRecDepth 20000 in
theorem qS6_l : qS6.length = qS6p.length := by decide +kernel
set_option maxRecDepth 20000 in
theorem qS6_b : (qS6.zip qS6p).all (fun q => gckS gXX "DctFilter$Sink" q.1 q.2) = true := by decide +kernel
set_option maxRecDepth 20000 in
def qC6p : List (Nat × Nat × Nat) := []
set_option maxRecDepth 20000 in
theorem qC6_l : qC6.length = qC6p.length := by decide +kernel
set_option maxRecDepth 20000 in
theorem qC6_b : (qC6.zip qC6p).all (fun q => gckC gcl gGG gXX "DctFilter$Sink" q.1 q.2) = true := by decide +kernel
set_option maxRecDepth 20000 in
def qM6p : List (Nat × Bool × Nat × Nat) := [(341, true, 0, 0), (1386, true, 1387, 1388), (1390, true, 827, 0), (1417, true, 1418, 1419)]
set_option maxRecDepth 20000 in
theorem qM6_l : qM6.length = qM6p.length := by decide +kernel
set_option maxRecDepth 20000 in
theorem qM6_b : (qM6.zip qM6p).all (fun q => gckM gPP gcl gXX "DctFilter$Sink" q.1 q.2) = true := by decide +kernel
set_option maxRecDepth 20000 in
def qF7p : List Nat := [156, 177, 181, 185, 187, 228, 230, 237, 241, 245, 250, 407, 427, 430, 437, 439, 441, 443, 445, 447, 488, 489, 490, 491]
set_option maxRecDepth 20000 in
theorem qF7_l : qF7.length = qF7p.length := by decide +kernel
set_option maxRecDepth 20000 in
theorem qF7_b : (qF7.zip qF7p).all (fun q => gckF gcl "DctFilter$Reader" q.1 q.2) = true := by decide +kernel
set_option maxRecDepth 20000 in
def qI7p : List Nat := [529, 578]
set_option maxRecDepth 20000 in
theorem qI7_l : qI7.length = qI7p.length := by decide +kernel
set_option maxRecDepth 20000 in
theorem qI7_b : (qI7.zip qI7p).all (fun q => gpos q.2 (Cond.constant "DctFilter$Reader" q.1.1 q.1.2)) = true := by decide +kernel
set_option maxRecDepth 20000 in
def qJ7p : List Nat := []
set_option maxRecDepth 20000 in
theorem qJ7_l : qJ7.length = qJ7p.length := by decide +kernel
set_option maxRecDepth 20000 in
theorem qJ7_b : (qJ7.zip qJ7p).all (fun q => gpos q.2 (Cond.constantLong "DctFilter$Reader" q.1.1 q.1.2)) = true := by decide +kernel
set_option maxRecDepth 20000 in
def qS7p : List (Nat × Nat × Bool) := []
set_option maxRecDepth 20000 in
theorem qS7_l : qS7.length = qS7p.length := by decide +kernel
set_option maxRecDepth 20000 in
theorem qS7_b : (qS7.zip qS7p).all (fun q => gckS gXX "DctFilter$Reader" q.1 q.2) = true := by decide +kernel
set_option maxRecDepth 20000 in
def qC7p : List (Nat × Nat × Nat) := [(390, 391, 118)]
set_option maxRecDepth 20000 in
theorem qC7_l : qC7.length = qC7p.length := by decide +kernel
set_option maxRecDepth 20000 in
theorem qC7_b : (qC7.zip qC7p).all (fun q => gckC gcl gGG gXX "DctFilter$Reader" q.1 q.2) = true := by decide +kernel
set_option maxRecDepth 20000 in
def qM7p : List (Nat × Bool × Nat × Nat) := [(389, true, 0, 0), (392, true, 393, 0), (505, true, 506, 507), (509, true, 0, 0), (512, true, 513, 514), (521, true, 522, 523), (530, true, 532, 0), (534, true, 526, 527), (535, true, 536, 537), (539, true, 540, 0), (542, true, 544, 1), (546, true, 548, 2), (550, true, 552, 3), (554, true, 556, 4), (558, true, 560, 5), (562, true, 563, 564), (566, true, 568, 6), (570, true, 572, 7), (574, true, 576, 8), (579, true, 581, 9), (583, true, 584, 585), (602, true, 604, 12), (606, true, 608, 13), (610, true, 611, 612), (614, true, 615, 616), (618, true, 619, 620), (704, true, 706, 27), (708, true, 588, 0)]
set_option maxRecDepth 20000 in
theorem qM7_l : qM7.length = qM7p.length := by decide +kernel
set_option maxRecDepth 20000 in
theorem qM7_b : (qM7.zip qM7p).all (fun q => gckM gPP gcl gXX "DctFilter$Reader" q.1 q.2) = true := by decide +kernel
set_option maxRecDepth 20000 in
def qF8p : List Nat := [180, 184, 189, 192, 194, 196, 197, 198, 199, 227, 233, 235, 236, 246, 254, 256, 405, 408, 436, 438, 440, 442, 444, 446, 448, 449, 450, 451, 452, 453, 454, 455, 456]
set_option maxRecDepth 20000 in
theorem qF8_l : qF8.length = qF8p.length := by decide +kernel
set_option maxRecDepth 20000 in
theorem qF8_b : (qF8.zip qF8p).all (fun q => gckF gcl "DctFilter$ScanReader" q.1 q.2) = true := by decide +kernel
set_option maxRecDepth 20000 in
def qI8p : List Nat := []
set_option maxRecDepth 20000 in
theorem qI8_l : qI8.length = qI8p.length := by decide +kernel
set_option maxRecDepth 20000 in
theorem qI8_b : (qI8.zip qI8p).all (fun q => gpos q.2 (Cond.constant "DctFilter$ScanReader" q.1.1 q.1.2)) = true := by decide +kernel
set_option maxRecDepth 20000 in
def qJ8p : List Nat := []
set_option maxRecDepth 20000 in
theorem qJ8_l : qJ8.length = qJ8p.length := by decide +kernel
set_option maxRecDepth 20000 in
theorem qJ8_b : (qJ8.zip qJ8p).all (fun q => gpos q.2 (Cond.constantLong "DctFilter$ScanReader" q.1.1 q.1.2)) = true := by decide +kernel
set_option maxRecDepth 20000 in
def qS8p : List (Nat × Nat × Bool) := []
set_option maxRecDepth 20000 in
theorem qS8_l : qS8.length = qS8p.length := by decide +kernel
set_option maxRecDepth 20000 in
theorem qS8_b : (qS8.zip qS8p).all (fun q => gckS gXX "DctFilter$ScanReader" q.1 q.2) = true := by decide +kernel
set_option maxRecDepth 20000 in
def qC8p : List (Nat × Nat × Nat) := [(396, 420, 120), (396, 0, 0), (398, 399, 119)]
set_option maxRecDepth 20000 in
theorem qC8_l : qC8.length = qC8p.length := by decide +kernel
set_option maxRecDepth 20000 in
theorem qC8_b : (qC8.zip qC8p).all (fun q => gckC gcl gGG gXX "DctFilter$ScanReader" q.1 q.2) = true := by decide +kernel
set_option maxRecDepth 20000 in
def qM8p : List (Nat × Bool × Nat × Nat) := [(395, true, 0, 0), (400, true, 401, 0), (4, false, 422, 0), (516, true, 517, 518), (622, true, 623, 624), (627, true, 629, 14), (631, true, 633, 15), (635, true, 637, 16), (639, true, 536, 537), (640, true, 526, 527), (641, true, 643, 17), (645, true, 647, 18), (649, true, 588, 0), (650, true, 652, 19), (654, true, 656, 20), (658, true, 659, 660), (662, true, 664, 21), (666, true, 563, 564), (667, true, 668, 669), (672, true, 673, 674), (676, true, 677, 0), (679, true, 681, 22), (683, true, 685, 23), (687, true, 689, 24), (691, true, 693, 25), (695, true, 697, 26), (699, true, 700, 701)]
set_option maxRecDepth 20000 in
theorem qM8_l : qM8.length = qM8p.length := by decide +kernel
set_option maxRecDepth 20000 in
theorem qM8_b : (qM8.zip qM8p).all (fun q => gckM gPP gcl gXX "DctFilter$ScanReader" q.1 q.2) = true := by decide +kernel
set_option maxRecDepth 20000 in
def qF9p : List Nat := [152, 157, 404, 406, 409, 410, 426, 429]
set_option maxRecDepth 20000 in
theorem qF9_l : qF9.length = qF9p.length := by decide +kernel
set_option maxRecDepth 20000 in
theorem qF9_b : (qF9.zip qF9p).all (fun q => gckF gcl "DctFilter$Bits" q.1 q.2) = true := by decide +kernel
set_option maxRecDepth 20000 in
def qI9p : List Nat := []
set_option maxRecDepth 20000 in
theorem qI9_l : qI9.length = qI9p.length := by decide +kernel
set_option maxRecDepth 20000 in
theorem qI9_b : (qI9.zip qI9p).all (fun q => gpos q.2 (Cond.constant "DctFilter$Bits" q.1.1 q.1.2)) = true := by decide +kernel
set_option maxRecDepth 20000 in
def qJ9p : List Nat := []
set_option maxRecDepth 20000 in
theorem qJ9_l : qJ9.length = qJ9p.length := by decide +kernel
set_option maxRecDepth 20000 in
theorem qJ9_b : (qJ9.zip qJ9p).all (fun q => gpos q.2 (Cond.constantLong "DctFilter$Bits" q.1.1 q.1.2)) = true := by decide +kernel
set_option maxRecDepth 20000 in
def qS9p : List (Nat × Nat × Bool) := []
set_option maxRecDepth 20000 in
theorem qS9_l : qS9.length = qS9p.length := by decide +kernel
set_option maxRecDepth 20000 in
theorem qS9_b : (qS9.zip qS9p).all (fun q => gckS gXX "DctFilter$Bits" q.1 q.2) = true := by decide +kernel
set_option maxRecDepth 20000 in
def qC9p : List (Nat × Nat × Nat) := []
set_option maxRecDepth 20000 in
theorem qC9_l : qC9.length = qC9p.length := by decide +kernel
set_option maxRecDepth 20000 in
theorem qC9_b : (qC9.zip qC9p).all (fun q => gckC gcl gGG gXX "DctFilter$Bits" q.1 q.2) = true := by decide +kernel
set_option maxRecDepth 20000 in
def qM9p : List (Nat × Bool × Nat × Nat) := [(403, true, 0, 0), (626, true, 588, 0), (671, true, 659, 660), (703, true, 526, 527)]
set_option maxRecDepth 20000 in
theorem qM9_l : qM9.length = qM9p.length := by decide +kernel
set_option maxRecDepth 20000 in
theorem qM9_b : (qM9.zip qM9p).all (fun q => gckM gPP gcl gXX "DctFilter$Bits" q.1 q.2) = true := by decide +kernel
set_option maxRecDepth 20000 in
def qF10p : List Nat := [425, 428]
set_option maxRecDepth 20000 in
theorem qF10_l : qF10.length = qF10p.length := by decide +kernel
set_option maxRecDepth 20000 in
theorem qF10_b : (qF10.zip qF10p).all (fun q => gckF gcl "DctFilter$Codes" q.1 q.2) = true := by decide +kernel
set_option maxRecDepth 20000 in
def qI10p : List Nat := []
set_option maxRecDepth 20000 in
theorem qI10_l : qI10.length = qI10p.length := by decide +kernel
set_option maxRecDepth 20000 in
theorem qI10_b : (qI10.zip qI10p).all (fun q => gpos q.2 (Cond.constant "DctFilter$Codes" q.1.1 q.1.2)) = true := by decide +kernel
set_option maxRecDepth 20000 in
def qJ10p : List Nat := []
set_option maxRecDepth 20000 in
theorem qJ10_l : qJ10.length = qJ10p.length := by decide +kernel
set_option maxRecDepth 20000 in
theorem qJ10_b : (qJ10.zip qJ10p).all (fun q => gpos q.2 (Cond.constantLong "DctFilter$Codes" q.1.1 q.1.2)) = true := by decide +kernel
set_option maxRecDepth 20000 in
def qS10p : List (Nat × Nat × Bool) := []
set_option maxRecDepth 20000 in
theorem qS10_l : qS10.length = qS10p.length := by decide +kernel
set_option maxRecDepth 20000 in
theorem qS10_b : (qS10.zip qS10p).all (fun q => gckS gXX "DctFilter$Codes" q.1 q.2) = true := by decide +kernel
set_option maxRecDepth 20000 in
def qC10p : List (Nat × Nat × Nat) := []
set_option maxRecDepth 20000 in
theorem qC10_l : qC10.length = qC10p.length := by decide +kernel
set_option maxRecDepth 20000 in
theorem qC10_b : (qC10.zip qC10p).all (fun q => gckC gcl gGG gXX "DctFilter$Codes" q.1 q.2) = true := by decide +kernel
set_option maxRecDepth 20000 in
def qM10p : List (Nat × Bool × Nat × Nat) := [(424, true, 0, 0), (520, true, 293, 0)]
set_option maxRecDepth 20000 in
theorem qM10_l : qM10.length = qM10p.length := by decide +kernel
set_option maxRecDepth 20000 in
theorem qM10_b : (qM10.zip qM10p).all (fun q => gckM gPP gcl gXX "DctFilter$Codes" q.1 q.2) = true := by decide +kernel
set_option maxRecDepth 20000 in
def qF11p : List Nat := []
set_option maxRecDepth 20000 in
theorem qF11_l : qF11.length = qF11p.length := by decide +kernel
set_option maxRecDepth 20000 in
theorem qF11_b : (qF11.zip qF11p).all (fun q => gckF gcl "java/lang/Math" q.1 q.2) = true := by decide +kernel
set_option maxRecDepth 20000 in
def qI11p : List Nat := []
set_option maxRecDepth 20000 in
theorem qI11_l : qI11.length = qI11p.length := by decide +kernel
set_option maxRecDepth 20000 in
theorem qI11_b : (qI11.zip qI11p).all (fun q => gpos q.2 (Cond.constant "java/lang/Math" q.1.1 q.1.2)) = true := by decide +kernel
set_option maxRecDepth 20000 in
def qJ11p : List Nat := []
set_option maxRecDepth 20000 in
theorem qJ11_l : qJ11.length = qJ11p.length := by decide +kernel
set_option maxRecDepth 20000 in
theorem qJ11_b : (qJ11.zip qJ11p).all (fun q => gpos q.2 (Cond.constantLong "java/lang/Math" q.1.1 q.1.2)) = true := by decide +kernel
set_option maxRecDepth 20000 in
def qS11p : List (Nat × Nat × Bool) := []
set_option maxRecDepth 20000 in
theorem qS11_l : qS11.length = qS11p.length := by decide +kernel
set_option maxRecDepth 20000 in
theorem qS11_b : (qS11.zip qS11p).all (fun q => gckS gXX "java/lang/Math" q.1 q.2) = true := by decide +kernel
set_option maxRecDepth 20000 in
def qC11p : List (Nat × Nat × Nat) := []
set_option maxRecDepth 20000 in
theorem qC11_l : qC11.length = qC11p.length := by decide +kernel
set_option maxRecDepth 20000 in
theorem qC11_b : (qC11.zip qC11p).all (fun q => gckC gcl gGG gXX "java/lang/Math" q.1 q.2) = true := by decide +kernel
set_option maxRecDepth 20000 in
def qM11p : List (Nat × Bool × Nat × Nat) := []
set_option maxRecDepth 20000 in
theorem qM11_l : qM11.length = qM11p.length := by decide +kernel
set_option maxRecDepth 20000 in
theorem qM11_b : (qM11.zip qM11p).all (fun q => gckM gPP gcl gXX "java/lang/Math" q.1 q.2) = true := by decide +kernel
set_option maxRecDepth 20000 in
def qF12p : List Nat := [297, 300, 301, 312, 1262, 1264, 1266, 1268, 1270, 1295, 1296, 1297, 1298, 1299, 1300, 1301, 1302, 1303, 1304, 1305, 1306, 1307, 1308, 1309]
set_option maxRecDepth 20000 in
theorem qF12_l : qF12.length = qF12p.length := by decide +kernel
set_option maxRecDepth 20000 in
theorem qF12_b : (qF12.zip qF12p).all (fun q => gckF gcl "DctFilter$Writer" q.1 q.2) = true := by decide +kernel
set_option maxRecDepth 20000 in
def qI12p : List Nat := []
set_option maxRecDepth 20000 in
theorem qI12_l : qI12.length = qI12p.length := by decide +kernel
set_option maxRecDepth 20000 in
theorem qI12_b : (qI12.zip qI12p).all (fun q => gpos q.2 (Cond.constant "DctFilter$Writer" q.1.1 q.1.2)) = true := by decide +kernel
set_option maxRecDepth 20000 in
def qJ12p : List Nat := [1373]
set_option maxRecDepth 20000 in
theorem qJ12_l : qJ12.length = qJ12p.length := by decide +kernel
set_option maxRecDepth 20000 in
theorem qJ12_b : (qJ12.zip qJ12p).all (fun q => gpos q.2 (Cond.constantLong "DctFilter$Writer" q.1.1 q.1.2)) = true := by decide +kernel
set_option maxRecDepth 20000 in
def qS12p : List (Nat × Nat × Bool) := [(0, 1, false)]
set_option maxRecDepth 20000 in
theorem qS12_l : qS12.length = qS12p.length := by decide +kernel
set_option maxRecDepth 20000 in
theorem qS12_b : (qS12.zip qS12p).all (fun q => gckS gXX "DctFilter$Writer" q.1 q.2) = true := by decide +kernel
set_option maxRecDepth 20000 in
def qC12p : List (Nat × Nat × Nat) := [(1254, 1256, 136), (1254, 0, 0)]
set_option maxRecDepth 20000 in
theorem qC12_l : qC12.length = qC12p.length := by decide +kernel
set_option maxRecDepth 20000 in
theorem qC12_b : (qC12.zip qC12p).all (fun q => gckC gcl gGG gXX "DctFilter$Writer" q.1 q.2) = true := by decide +kernel
set_option maxRecDepth 20000 in
def qM12p : List (Nat × Bool × Nat × Nat) := [(1253, true, 0, 0), (7, false, 1258, 0), (1345, true, 588, 0), (1346, true, 837, 0), (8, false, 591, 0), (1352, true, 1354, 30), (9, false, 1124, 0), (1357, true, 1358, 1359), (1363, true, 1365, 31), (1367, true, 1368, 0), (1370, true, 1371, 0), (1378, true, 1379, 1380), (1382, true, 1383, 1384), (1391, true, 1392, 1393), (1395, true, 1387, 1388), (1400, true, 1401, 1402), (1405, true, 1407, 32), (1409, true, 1411, 33), (1413, true, 1414, 1415), (1421, true, 1423, 34), (1425, true, 1427, 35), (1429, true, 1418, 1419), (1430, true, 1431, 0), (1433, true, 1434, 0), (1436, true, 1437, 0), (1440, true, 1442, 36), (1444, true, 1445, 1446), (1448, true, 1450, 37), (1452, true, 1454, 38), (1456, true, 1458, 39), (1460, true, 1462, 40), (1464, true, 1466, 41), (1468, true, 1469, 1470), (1485, true, 1487, 45)]
set_option maxRecDepth 20000 in
theorem qM12_l : qM12.length = qM12p.length := by decide +kernel
set_option maxRecDepth 20000 in
theorem qM12_b : (qM12.zip qM12p).all (fun q => gckM gPP gcl gXX "DctFilter$Writer" q.1 q.2) = true := by decide +kernel
set_option maxRecDepth 20000 in
def qF13p : List Nat := [1261, 1263, 1265, 1267, 1269, 1271, 1272, 1273, 1274]
set_option maxRecDepth 20000 in
theorem qF13_l : qF13.length = qF13p.length := by decide +kernel
set_option maxRecDepth 20000 in
theorem qF13_b : (qF13.zip qF13p).all (fun q => gckF gcl "DctFilter$Suited" q.1 q.2) = true := by decide +kernel
set_option maxRecDepth 20000 in
def qI13p : List Nat := []
set_option maxRecDepth 20000 in
theorem qI13_l : qI13.length = qI13p.length := by decide +kernel
set_option maxRecDepth 20000 in
theorem qI13_b : (qI13.zip qI13p).all (fun q => gpos q.2 (Cond.constant "DctFilter$Suited" q.1.1 q.1.2)) = true := by decide +kernel
set_option maxRecDepth 20000 in
def qJ13p : List Nat := []
set_option maxRecDepth 20000 in
theorem qJ13_l : qJ13.length = qJ13p.length := by decide +kernel
set_option maxRecDepth 20000 in
theorem qJ13_b : (qJ13.zip qJ13p).all (fun q => gpos q.2 (Cond.constantLong "DctFilter$Suited" q.1.1 q.1.2)) = true := by decide +kernel
set_option maxRecDepth 20000 in
def qS13p : List (Nat × Nat × Bool) := []
set_option maxRecDepth 20000 in
theorem qS13_l : qS13.length = qS13p.length := by decide +kernel
set_option maxRecDepth 20000 in
theorem qS13_b : (qS13.zip qS13p).all (fun q => gckS gXX "DctFilter$Suited" q.1 q.2) = true := by decide +kernel
set_option maxRecDepth 20000 in
def qC13p : List (Nat × Nat × Nat) := []
set_option maxRecDepth 20000 in
theorem qC13_l : qC13.length = qC13p.length := by decide +kernel
set_option maxRecDepth 20000 in
theorem qC13_b : (qC13.zip qC13p).all (fun q => gckC gcl gGG gXX "DctFilter$Suited" q.1 q.2) = true := by decide +kernel
set_option maxRecDepth 20000 in
def qM13p : List (Nat × Bool × Nat × Nat) := [(1260, true, 0, 0), (1404, true, 293, 0), (1472, true, 1474, 42), (1476, true, 588, 0), (1477, true, 1479, 43), (1481, true, 1483, 44)]
set_option maxRecDepth 20000 in
theorem qM13_l : qM13.length = qM13p.length := by decide +kernel
set_option maxRecDepth 20000 in
theorem qM13_b : (qM13.zip qM13p).all (fun q => gckM gPP gcl gXX "DctFilter$Suited" q.1 q.2) = true := by decide +kernel
set_option maxRecDepth 20000 in
def qF14p : List Nat := []
set_option maxRecDepth 20000 in
theorem qF14_l : qF14.length = qF14p.length := by decide +kernel
set_option maxRecDepth 20000 in
theorem qF14_b : (qF14.zip qF14p).all (fun q => gckF gcl "java/lang/Integer" q.1 q.2) = true := by decide +kernel
set_option maxRecDepth 20000 in
def qI14p : List Nat := [1439]
set_option maxRecDepth 20000 in
theorem qI14_l : qI14.length = qI14p.length := by decide +kernel
set_option maxRecDepth 20000 in
theorem qI14_b : (qI14.zip qI14p).all (fun q => gpos q.2 (Cond.constant "java/lang/Integer" q.1.1 q.1.2)) = true := by decide +kernel
set_option maxRecDepth 20000 in
def qJ14p : List Nat := []
set_option maxRecDepth 20000 in
theorem qJ14_l : qJ14.length = qJ14p.length := by decide +kernel
set_option maxRecDepth 20000 in
theorem qJ14_b : (qJ14.zip qJ14p).all (fun q => gpos q.2 (Cond.constantLong "java/lang/Integer" q.1.1 q.1.2)) = true := by decide +kernel
set_option maxRecDepth 20000 in
def qS14p : List (Nat × Nat × Bool) := []
set_option maxRecDepth 20000 in
theorem qS14_l : qS14.length = qS14p.length := by decide +kernel
set_option maxRecDepth 20000 in
theorem qS14_b : (qS14.zip qS14p).all (fun q => gckS gXX "java/lang/Integer" q.1 q.2) = true := by decide +kernel
set_option maxRecDepth 20000 in
def qC14p : List (Nat × Nat × Nat) := []
set_option maxRecDepth 20000 in
theorem qC14_l : qC14.length = qC14p.length := by decide +kernel
set_option maxRecDepth 20000 in
theorem qC14_b : (qC14.zip qC14p).all (fun q => gckC gcl gGG gXX "java/lang/Integer" q.1 q.2) = true := by decide +kernel
set_option maxRecDepth 20000 in
def qM14p : List (Nat × Bool × Nat × Nat) := []
set_option maxRecDepth 20000 in
theorem qM14_l : qM14.length = qM14p.length := by decide +kernel
set_option maxRecDepth 20000 in
theorem qM14_b : (qM14.zip qM14p).all (fun q => gckM gPP gcl gXX "java/lang/Integer" q.1 q.2) = true := by decide +kernel
set_option maxRecDepth 20000 in
def qF15p : List Nat := [1512, 1513, 1514, 1515, 1516, 1517, 1518, 1519, 1520, 1521, 1522, 1523, 1524, 1525, 1526, 1527, 1528, 1529, 1530, 1531, 1532, 1533, 1534, 1535, 1536, 1537, 1538, 1539, 1540, 1541, 1542, 1543, 1544, 1545, 1546, 1547, 1548, 1549, 1550, 1551, 1552, 1553, 1554, 1555, 1556, 1557, 1558, 1559, 1560, 1561, 1562, 1563, 1564, 1565, 1566, 1567, 1568, 1569, 1570, 1571, 1572, 1573, 1574, 1575, 1576, 1577, 1578, 1579, 1580, 1581, 1582, 1583, 1584, 1585, 1586, 1587, 1588]
set_option maxRecDepth 20000 in
theorem qF15_l : qF15.length = qF15p.length := by decide +kernel
set_option maxRecDepth 20000 in
theorem qF15_b : (qF15.zip qF15p).all (fun q => gckF gcl "DctFilterModel" q.1 q.2) = true := by decide +kernel
set_option maxRecDepth 20000 in
def qI15p : List Nat := [1511, 1918, 1919, 1920, 1921]
set_option maxRecDepth 20000 in
theorem qI15_l : qI15.length = qI15p.length := by decide +kernel
set_option maxRecDepth 20000 in
theorem qI15_b : (qI15.zip qI15p).all (fun q => gpos q.2 (Cond.constant "DctFilterModel" q.1.1 q.1.2)) = true := by decide +kernel
set_option maxRecDepth 20000 in
def qJ15p : List Nat := [1785, 1912, 1913, 1917, 1970, 1971, 1972]
set_option maxRecDepth 20000 in
theorem qJ15_l : qJ15.length = qJ15p.length := by decide +kernel
set_option maxRecDepth 20000 in
theorem qJ15_b : (qJ15.zip qJ15p).all (fun q => gpos q.2 (Cond.constantLong "DctFilterModel" q.1.1 q.1.2)) = true := by decide +kernel
set_option maxRecDepth 20000 in
def qS15p : List (Nat × Nat × Bool) := []
set_option maxRecDepth 20000 in
theorem qS15_l : qS15.length = qS15p.length := by decide +kernel
set_option maxRecDepth 20000 in
theorem qS15_b : (qS15.zip qS15p).all (fun q => gckS gXX "DctFilterModel" q.1 q.2) = true := by decide +kernel
set_option maxRecDepth 20000 in
def qC15p : List (Nat × Nat × Nat) := []
set_option maxRecDepth 20000 in
theorem qC15_l : qC15.length = qC15p.length := by decide +kernel
set_option maxRecDepth 20000 in
theorem qC15_b : (qC15.zip qC15p).all (fun q => gckC gcl gGG gXX "DctFilterModel" q.1 q.2) = true := by decide +kernel
set_option maxRecDepth 20000 in
def qM15p : List (Nat × Bool × Nat × Nat) := [(1510, true, 0, 0), (1753, true, 1755, 46), (1757, true, 1759, 47), (1761, true, 1763, 48), (1765, true, 1767, 49), (1769, true, 1771, 50), (1773, true, 1775, 51), (1777, true, 1779, 52), (1781, true, 1783, 53), (1786, true, 1788, 54), (1790, true, 1792, 55), (1794, true, 1796, 56), (1798, true, 1800, 57), (1802, true, 1804, 58), (1806, true, 1807, 0), (1809, true, 1811, 59), (1813, true, 1815, 60), (1817, true, 1819, 61), (1821, true, 1823, 62), (1825, true, 1827, 63), (1829, true, 1831, 64), (1833, true, 1835, 65), (1837, true, 1839, 66), (1841, true, 1843, 67), (1845, true, 1847, 68), (1849, true, 1851, 69), (1853, true, 1855, 70), (1857, true, 1859, 71), (1861, true, 1863, 72), (1865, true, 1867, 73), (1869, true, 1871, 74), (1873, true, 1875, 75), (1877, true, 1879, 76), (1881, true, 1883, 77), (1885, true, 1887, 78), (1889, true, 1891, 79), (1897, true, 1899, 80), (1901, true, 1903, 81), (1905, true, 1907, 82), (1909, true, 1910, 0), (1914, true, 1915, 0), (1926, true, 1928, 83), (1938, true, 1940, 84), (1962, true, 1964, 85), (1966, true, 1968, 86), (1973, true, 1975, 87), (1977, true, 1979, 88), (1981, true, 1983, 89), (1985, true, 1987, 90), (1989, true, 1991, 91), (1993, true, 1995, 92), (1997, true, 1999, 93), (2001, true, 2003, 94), (2005, true, 2006, 0), (2008, true, 2010, 95), (2012, true, 2014, 96), (2016, true, 2018, 97), (2020, true, 2022, 98), (2024, true, 2026, 99), (2028, true, 2030, 100), (2032, true, 2034, 101), (2036, true, 2038, 102), (2040, true, 2042, 103)]
set_option maxRecDepth 20000 in
theorem qM15_l : qM15.length = qM15p.length := by decide +kernel
set_option maxRecDepth 20000 in
theorem qM15_b : (qM15.zip qM15p).all (fun q => gckM gPP gcl gXX "DctFilterModel" q.1 q.2) = true := by decide +kernel