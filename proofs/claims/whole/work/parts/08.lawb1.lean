set_option maxRecDepth 20000 in
theorem ggL_law_X11_lacks : GoodIn wsL_law wsX11_lacks := goodIn_r _ [381, 28, 24, 265, 266, 2, 267, 214, 215, 216, 250, 251, 252, 382, 383, 384, 27, 385, 78, 359, 360, 361, 362, 76, 72, 73, 74, 75, 363, 364, 365, 1180, 1181, 1182, 1183, 1184, 1185, 1186, 1187, 1188, 1189, 1190, 1191, 1192, 1243, 1244, 1245, 1246, 1247, 1248, 1249, 1250, 1251] (by decide +kernel) (by decide +kernel)
set_option maxRecDepth 20000 in
theorem gL_law_X11_lacks : GoodIn wsL_law (wsV RL 59 RX11 yX11_lacks wsX11_lacks) := goodIn_app (goodIn_of _ (by decide +kernel)) ggL_law_X11_lacks
set_option maxRecDepth 20000 in
theorem ggL_law_X12_lacks : GoodIn wsL_law wsX12_lacks := goodIn_r _ [389, 221, 222, 181, 182, 281, 282, 5, 283, 284, 226, 227, 228, 223, 224, 225, 374, 375, 376, 377, 276, 178, 1193, 1194, 1195, 1196, 1197, 1198, 1199, 1200, 1201, 1202, 1203, 1204, 1205, 1206, 1207, 1208, 1209, 1210, 1211, 1212, 1213, 1214, 1215, 1216, 1217, 1218, 1219, 1220, 1221, 1222, 1223, 1224, 1225, 1226, 1227, 1228, 1229, 1230, 1231, 1232, 1233, 1234, 1235, 1236, 1237, 1238] (by decide +kernel) (by decide +kernel)
set_option maxRecDepth 20000 in
theorem gL_law_X12_lacks : GoodIn wsL_law (wsV RL 62 RX12 yX12_lacks wsX12_lacks) := goodIn_app (goodIn_of _ (by decide +kernel)) ggL_law_X12_lacks
set_option maxRecDepth 20000 in
theorem ggL_law_X11_write : GoodIn wsL_law wsX11_write := goodIn_r _ [393, 35, 394, 395, 396, 397, 34, 398, 84, 83, 399, 1180, 1181, 1182, 1183, 1184, 1185, 1186, 1187, 1188, 1189, 1190, 1191, 1192, 1252, 1253] (by decide +kernel) (by decide +kernel)
set_option maxRecDepth 20000 in
theorem gL_law_X11_write : GoodIn wsL_law (wsV RL 65 RX11 yX11_write wsX11_write) := goodIn_app (goodIn_of _ (by decide +kernel)) ggL_law_X11_write
set_option maxRecDepth 20000 in
theorem ggL_law_X12_write : GoodIn wsL_law wsX12_write := goodIn_r _ [403, 221, 404, 405, 183, 226, 227, 5, 228, 1193, 1194, 1195, 1196, 1197, 1198, 1199, 1200, 1201, 1202, 1203, 1204, 1205, 1206, 1207, 1208, 1209, 1210, 1211, 1212, 1213, 1214, 1215, 1216, 1217, 1218, 1219, 1220, 1221, 1222, 1223, 1224, 1225, 1226, 1227, 1228, 1229, 1230, 1231, 1232, 1233, 1234, 1235, 1236, 1237, 1238] (by decide +kernel) (by decide +kernel)
set_option maxRecDepth 20000 in
theorem gL_law_X12_write : GoodIn wsL_law (wsV RL 69 RX12 yX12_write wsX12_write) := goodIn_app (goodIn_of _ (by decide +kernel)) ggL_law_X12_write
set_option maxRecDepth 20000 in
theorem ggL_law_X11_wipe : GoodIn wsL_law wsX11_wipe := goodIn_r _ [409, 35, 394, 1180, 1181, 1182, 1183, 1184, 1185, 1186, 1187, 1188, 1189, 1190, 1191, 1192, 1252, 1253] (by decide +kernel) (by decide +kernel)
set_option maxRecDepth 20000 in
theorem gL_law_X11_wipe : GoodIn wsL_law (wsV RL 70 RX11 yX11_wipe wsX11_wipe) := goodIn_app (goodIn_of _ (by decide +kernel)) ggL_law_X11_wipe
set_option maxRecDepth 20000 in
theorem ggL_law_X12_wipe : GoodIn wsL_law wsX12_wipe := goodIn_r _ [413, 221, 405, 1193, 1194, 1195, 1196, 1197, 1198, 1199, 1200, 1201, 1202, 1203, 1204, 1205, 1206, 1207, 1208, 1209, 1210, 1211, 1212, 1213, 1214, 1215, 1216, 1217, 1218, 1219, 1220, 1221, 1222, 1223, 1224, 1225, 1226, 1227, 1228, 1229, 1230, 1231, 1232, 1233, 1234, 1235, 1236, 1237, 1238] (by decide +kernel) (by decide +kernel)
set_option maxRecDepth 20000 in
theorem gL_law_X12_wipe : GoodIn wsL_law (wsV RL 73 RX12 yX12_wipe wsX12_wipe) := goodIn_app (goodIn_of _ (by decide +kernel)) ggL_law_X12_wipe
set_option maxRecDepth 20000 in
theorem ggL_law_X11_fault : GoodIn wsL_law wsX11_fault := goodIn_r _ [417, 39, 35, 47, 51, 418, 419, 420, 38, 421, 90, 91, 422, 423, 424, 425, 103, 426, 427, 428, 429, 430, 431, 432, 46, 433, 110, 434, 435, 93, 436, 99, 100, 101, 437, 438, 50, 439, 125, 126, 440, 441, 442, 443, 444, 109, 445, 446, 447, 114, 448, 449, 450, 451, 452, 116, 453, 454, 455, 456, 121, 122, 457, 112, 113, 115, 117, 118, 119, 120, 458, 459, 460, 461, 462, 463, 464, 465, 466, 467, 468, 469, 470, 471, 472, 473, 474, 475, 476, 477, 478, 479, 480, 481, 482, 483, 484, 485, 486, 487, 488, 489, 490, 491, 492, 493, 494, 495, 496, 497, 498, 499, 500, 501, 502, 503, 504, 505, 506, 507, 508, 509, 510, 511, 512, 513, 514, 515, 516, 517, 518, 519, 520, 521, 522, 523, 524, 525, 526, 527, 528, 529, 96, 97, 98, 530, 531, 2, 532, 533, 534, 535, 536, 537, 538, 539, 540, 541, 542, 127, 543, 544, 545, 546, 547, 548, 549, 550, 551, 235, 236, 552, 553, 554, 555, 556, 557, 558, 559, 560, 561, 562, 563, 564, 565, 566, 567, 568, 1180, 1181, 1182, 1183, 1184, 1185, 1186, 1187, 1188, 1189, 1190, 1191, 1192, 1254, 1255, 1252, 1253, 1256, 1257, 1283, 1284, 1285, 1286, 1287, 1288, 1258, 1259, 1260] (by decide +kernel) (by decide +kernel)
set_option maxRecDepth 20000 in
theorem gL_law_X11_fault : GoodIn wsL_law (wsV RL 74 RX11 yX11_fault wsX11_fault) := goodIn_app (goodIn_of _ (by decide +kernel)) ggL_law_X11_fault
set_option maxRecDepth 20000 in
theorem ggL_law_X12_fault : GoodIn wsL_law wsX12_fault := goodIn_r _ [572, 221, 573, 574, 575, 5, 576, 577, 185, 405, 578, 579, 580, 581, 183, 582, 583, 584, 585, 586, 587, 588, 589, 226, 227, 228, 590, 591, 592, 593, 594, 595, 596, 597, 598, 599, 600, 601, 194, 602, 1193, 1194, 1195, 1196, 1197, 1198, 1199, 1200, 1201, 1202, 1203, 1204, 1205, 1206, 1207, 1208, 1209, 1210, 1211, 1212, 1213, 1214, 1215, 1216, 1217, 1218, 1219, 1220, 1221, 1222, 1223, 1224, 1225, 1226, 1227, 1228, 1229, 1230, 1231, 1232, 1233, 1234, 1235, 1236, 1237, 1238] (by decide +kernel) (by decide +kernel)
set_option maxRecDepth 20000 in
theorem gL_law_X12_fault : GoodIn wsL_law (wsV RL 78 RX12 yX12_fault wsX12_fault) := goodIn_app (goodIn_of _ (by decide +kernel)) ggL_law_X12_fault
set_option maxRecDepth 20000 in
theorem ggL_law_X11_rule : GoodIn wsL_law wsX11_rule := goodIn_r _ [606, 39, 35, 607, 418, 419, 420, 38, 421, 90, 91, 422, 423, 424, 425, 103, 426, 427, 428, 429, 430, 431, 432, 46, 433, 110, 434, 435, 93, 436, 99, 100, 101, 437, 438, 50, 439, 125, 126, 440, 441, 442, 443, 444, 109, 445, 446, 447, 114, 448, 449, 450, 451, 452, 116, 453, 454, 455, 456, 121, 122, 457, 112, 113, 115, 117, 118, 119, 120, 458, 459, 460, 461, 462, 463, 464, 465, 466, 467, 468, 469, 470, 471, 472, 473, 474, 475, 476, 477, 478, 479, 480, 481, 482, 483, 484, 485, 486, 487, 488, 489, 490, 491, 492, 493, 494, 495, 496, 497, 498, 499, 500, 501, 502, 503, 504, 505, 506, 507, 508, 509, 510, 511, 512, 513, 514, 515, 516, 517, 518, 519, 520, 521, 522, 523, 524, 525, 526, 527, 528, 529, 96, 97, 98, 530, 531, 2, 532, 533, 534, 535, 536, 537, 538, 539, 540, 541, 542, 127, 543, 544, 545, 546, 547, 548, 549, 550, 551, 235, 236, 552, 553, 554, 555, 556, 557, 558, 559, 560, 561, 562, 1180, 1181, 1182, 1183, 1184, 1185, 1186, 1187, 1188, 1189, 1190, 1191, 1192, 1254, 1255, 1252, 1253, 1256, 1257, 1283, 1284, 1285, 1286, 1287, 1288, 1258, 1259, 1260] (by decide +kernel) (by decide +kernel)
set_option maxRecDepth 20000 in
theorem gL_law_X11_rule : GoodIn wsL_law (wsV RL 79 RX11 yX11_rule wsX11_rule) := goodIn_app (goodIn_of _ (by decide +kernel)) ggL_law_X11_rule
set_option maxRecDepth 20000 in
theorem ggL_law_X12_rule : GoodIn wsL_law wsX12_rule := goodIn_r _ [611, 221, 612, 184, 185, 573, 574, 575, 5, 576, 577, 405, 578, 579, 580, 581, 183, 582, 583, 584, 585, 586, 587, 588, 589, 226, 227, 228, 1193, 1194, 1195, 1196, 1197, 1198, 1199, 1200, 1201, 1202, 1203, 1204, 1205, 1206, 1207, 1208, 1209, 1210, 1211, 1212, 1213, 1214, 1215, 1216, 1217, 1218, 1219, 1220, 1221, 1222, 1223, 1224, 1225, 1226, 1227, 1228, 1229, 1230, 1231, 1232, 1233, 1234, 1235, 1236, 1237, 1238] (by decide +kernel) (by decide +kernel)
set_option maxRecDepth 20000 in
theorem gL_law_X12_rule : GoodIn wsL_law (wsV RL 82 RX12 yX12_rule wsX12_rule) := goodIn_app (goodIn_of _ (by decide +kernel)) ggL_law_X12_rule
set_option maxRecDepth 20000 in
theorem ggL_law_X11_unrule : GoodIn wsL_law wsX11_unrule := goodIn_r _ [616, 39, 607, 617, 618, 619, 2, 620, 621, 622, 623, 38, 624, 90, 91, 1180, 1181, 1182, 1183, 1184, 1185, 1186, 1187, 1188, 1189, 1190, 1191, 1192, 1254, 1255] (by decide +kernel) (by decide +kernel)
set_option maxRecDepth 20000 in
theorem gL_law_X11_unrule : GoodIn wsL_law (wsV RL 83 RX11 yX11_unrule wsX11_unrule) := goodIn_app (goodIn_of _ (by decide +kernel)) ggL_law_X11_unrule
set_option maxRecDepth 20000 in
theorem ggL_law_X12_unrule : GoodIn wsL_law wsX12_unrule := goodIn_r _ [628, 221, 612, 184, 226, 227, 5, 228, 1193, 1194, 1195, 1196, 1197, 1198, 1199, 1200, 1201, 1202, 1203, 1204, 1205, 1206, 1207, 1208, 1209, 1210, 1211, 1212, 1213, 1214, 1215, 1216, 1217, 1218, 1219, 1220, 1221, 1222, 1223, 1224, 1225, 1226, 1227, 1228, 1229, 1230, 1231, 1232, 1233, 1234, 1235, 1236, 1237, 1238] (by decide +kernel) (by decide +kernel)
set_option maxRecDepth 20000 in
theorem gL_law_X12_unrule : GoodIn wsL_law (wsV RL 86 RX12 yX12_unrule wsX12_unrule) := goodIn_app (goodIn_of _ (by decide +kernel)) ggL_law_X12_unrule
set_option maxRecDepth 20000 in
theorem ggL_law_X11_ruled : GoodIn wsL_law wsX11_ruled := goodIn_r _ [632, 39, 633, 617, 618, 619, 2, 620, 607, 634, 635, 636, 93, 637, 96, 97, 98, 99, 100, 101, 1180, 1181, 1182, 1183, 1184, 1185, 1186, 1187, 1188, 1189, 1190, 1191, 1192, 1254, 1255, 1283, 1284, 1285, 1286, 1287, 1288] (by decide +kernel) (by decide +kernel)
set_option maxRecDepth 20000 in
theorem gL_law_X11_ruled : GoodIn wsL_law (wsV RL 87 RX11 yX11_ruled wsX11_ruled) := goodIn_app (goodIn_of _ (by decide +kernel)) ggL_law_X11_ruled
set_option maxRecDepth 20000 in
theorem ggL_law_X12_ruled : GoodIn wsL_law wsX12_ruled := goodIn_r _ [641, 221, 612, 222, 184, 226, 227, 5, 228, 1193, 1194, 1195, 1196, 1197, 1198, 1199, 1200, 1201, 1202, 1203, 1204, 1205, 1206, 1207, 1208, 1209, 1210, 1211, 1212, 1213, 1214, 1215, 1216, 1217, 1218, 1219, 1220, 1221, 1222, 1223, 1224, 1225, 1226, 1227, 1228, 1229, 1230, 1231, 1232, 1233, 1234, 1235, 1236, 1237, 1238] (by decide +kernel) (by decide +kernel)
set_option maxRecDepth 20000 in
theorem gL_law_X12_ruled : GoodIn wsL_law (wsV RL 90 RX12 yX12_ruled wsX12_ruled) := goodIn_app (goodIn_of _ (by decide +kernel)) ggL_law_X12_ruled
set_option maxRecDepth 20000 in
theorem ggL_law_X11_order : GoodIn wsL_law wsX11_order := goodIn_r _ [645, 47, 35, 41, 646, 647, 648, 2, 649, 563, 564, 565, 425, 103, 426, 427, 428, 429, 430, 431, 432, 46, 433, 110, 434, 435, 93, 436, 99, 100, 101, 437, 438, 50, 439, 125, 126, 440, 441, 442, 443, 444, 109, 445, 446, 447, 114, 448, 449, 450, 451, 452, 116, 453, 454, 455, 456, 121, 122, 457, 112, 113, 115, 117, 118, 119, 120, 458, 459, 460, 461, 462, 463, 464, 465, 466, 467, 468, 469, 470, 471, 472, 473, 474, 475, 476, 477, 478, 479, 480, 481, 482, 483, 484, 485, 486, 487, 488, 489, 490, 491, 492, 493, 494, 495, 496, 497, 498, 499, 500, 501, 502, 503, 504, 505, 506, 507, 508, 509, 510, 511, 512, 513, 514, 515, 516, 517, 518, 519, 520, 521, 522, 523, 524, 525, 526, 527, 528, 529, 96, 97, 98, 530, 531, 532, 533, 534, 535, 536, 537, 538, 539, 540, 541, 542, 127, 543, 544, 545, 546, 547, 548, 549, 550, 551, 235, 236, 552, 553, 554, 555, 556, 557, 558, 559, 560, 561, 562, 650, 651, 652, 653, 654, 655, 656, 657, 1180, 1181, 1182, 1183, 1184, 1185, 1186, 1187, 1188, 1189, 1190, 1191, 1192, 1256, 1257, 1252, 1253, 1283, 1284, 1285, 1286, 1287, 1288, 1258, 1259, 1260] (by decide +kernel) (by decide +kernel)
set_option maxRecDepth 20000 in
theorem gL_law_X11_order : GoodIn wsL_law (wsV RL 91 RX11 yX11_order wsX11_order) := goodIn_app (goodIn_of _ (by decide +kernel)) ggL_law_X11_order
